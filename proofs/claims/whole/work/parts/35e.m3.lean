set_option maxRecDepth 100000 in
set_option maxHeartbeats 4000000 in
theorem jd_area (l : Launch) (D : va_G) (q : Nat → Nat) (cI cZ : ClassId) (S : JS) (u : JM) (hW9 : jWf S) (hS9 : jmR1 S u)  : jkI l yX1_area wsX1_area ({ frames := 3, cells := 0, slots := 0, locals := 70 }) D vwCl (jxt cI cZ) (jmc q cI cZ) [.ref (q 0)] (jmc q cI cZ u) (fun r u1 => jar S 60 = r ∧ jmR1 S u1 ∧ jmF u1 = nI 0) := by
  refine jkI_of (cc := cX1_area) (maxL := 6) (ret := (some .int)) (by decide) rfl (Nat.le_of_ble_eq_true rfl) ?_
  intro p e R s m args below meth c Q A K hn9 hR9 hQ9
  obtain ⟨rN, rT, rM, rU, rK, rP, rA, rL, rB⟩ := id hS9
  obtain ⟨wn, wt, wu, wk, wp, wl, wb⟩ := id hW9
  have hu9 : ∀ w ∈ u_ws RX1 TX1 16, w ∈ wsX1_area := fun w h => List.mem_cons_of_mem _ (ku_X1 w h)
  show jaW p l e R s m args below meth c 0 0 Q D vwCl A 6 (jmc q cI cZ u) [(0, .ref (q 0))] 0 []
  refine ja_aload_n K 0 dX1_area_0 rfl ?_
  refine ja_iconst K (nI 0) dX1_area_1 (by decide) ?_
  refine ja_put K (ws1 := jmc q cI cZ (jmsF (u) (nI 0))) hu9 0 rfl rfl 0 (by decide) (List.mem_cons_of_mem _ kfX1_38) rfl tyX1 tyX1_ok nmX1 rfl rfl rfl rfl (Nat.le_of_ble_eq_true rfl) dX1_area_2 rfl ?_
  refine ja_aload_n K 0 dX1_area_5 rfl ?_
  refine ja_callVI K (q0 := 0) (qc := (RX1, TX1, 16)) (st := []) [] (jd_samples l D q cI cZ S (jmsF (u) (nI 0)) hW9 hS9) (cwV 0 K.1.2.2.2.2 (gX1_X1_samples _) rfl rfl rfl (by decide +kernel) (by rw [hR9]; exact ⟨Nat.le_of_ble_eq_true rfl, Nat.le_of_ble_eq_true rfl⟩)) rfl rfl rfl rfl rfl (Nat.le_of_ble_eq_true rfl) dX1_area_6 (by rw [hR9]; exact ⟨Nat.le_of_ble_eq_true rfl, Nat.le_of_ble_eq_true rfl⟩) (fun r9 u9 h9 => ?_)
  obtain ⟨rfl, rfl⟩ := h9
  refine ja_istore_n K (lv1 := [(0, .ref (q 0)), (1, .int (nI ((jct (jM S) (jN S)))))]) dX1_area_9 (by decide) rfl rfl ?_
  refine ja_iconst K (nI 0) dX1_area_10 (by decide) ?_
  refine ja_istore_n K (lv1 := [(0, .ref (q 0)), (1, .int (nI ((jct (jM S) (jN S))))), (2, .int (nI 0))]) dX1_area_11 (by decide) rfl rfl ?_
  refine ja_iconst K (nI 0) dX1_area_12 (by decide) ?_
  refine ja_istore_n K (lv1 := [(0, .ref (q 0)), (1, .int (nI ((jct (jM S) (jN S))))), (2, .int (nI 0)), (3, .int (nI 0))]) dX1_area_13 (by decide) rfl rfl ?_
  have L14 : ∀ (x : Nat), (x ≤ 60) → jaW p l e R s m args below meth c 0 0 Q D vwCl A 6 (jmc q cI cZ (jmsF (u) (nI 0))) [(0, .ref (q 0)), (1, .int (nI ((jct (jM S) (jN S))))), (2, .int ((jar S x))), (3, .int (nI (x)))] 14 [] := by
    refine jl_1 (fun (x : Nat) => 60 - x) (fun (x : Nat) => x ≤ 60) _ ?_
    intro x hI14 IH14
    refine ja_iload_n K 3 dX1_area_14 rfl ?_
    refine ja_bipush K (nI 60) dX1_area_15 (by decide) ?_
    refine ja_icmp_ge K (tgt := 101) (60 ≤ x) dX1_area_17 (by decide) (nI_leI (by omega) (by omega)) (fun h17 => ?_) (fun h17 => ?_)
    · refine ja_iload_n K 2 dX1_area_101 rfl ?_
      exact ja_iret K (jmsF (u) (nI 0)) rfl (Nat.zero_le _) (Nat.zero_le _) dX1_area_102 hQ9 rfl ⟨by rw [show x = 60 by omega], hS9, rfl⟩
    · refine ja_iconst K (nI 0) dX1_area_20 (by decide) ?_
      refine ja_istore K (lv1 := [(0, .ref (q 0)), (1, .int (nI ((jct (jM S) (jN S))))), (2, .int ((jar S x))), (3, .int (nI (x))), (4, .int (nI 0))]) dX1_area_21 (by decide) rfl rfl ?_
      have L23 : ∀ (i : Nat), (i ≤ jN S) → jaW p l e R s m args below meth c 0 0 Q D vwCl A 6 (jmc q cI cZ (jmsF (u) (nI 0))) [(0, .ref (q 0)), (1, .int (nI ((jct (jM S) (jN S))))), (2, .int ((jar S x + jarI S x i))), (3, .int (nI (x))), (4, .int (nI (i)))] 23 [] := by
        refine jl_1 (fun (i : Nat) => jN S - i) (fun (i : Nat) => i ≤ jN S) _ ?_
        intro i hI23 IH23
        refine ja_iload K 4 dX1_area_23 rfl ?_
        refine ja_aload_n K 0 dX1_area_25 rfl ?_
        refine ja_get K hu9 0 rfl rfl 1 (by decide) (List.mem_cons_of_mem _ kfX1_42) rfl (congrArg (fun z9 => some (Value.int z9)) rN) dX1_area_26 ?_
        refine ja_icmp_ge K (tgt := 95) ((jN S) ≤ i) dX1_area_29 (by decide) (nI_leI (by omega) (by omega)) (fun h29 => ?_) (fun h29 => ?_)
        · refine ja_iinc K (lv1 := [(0, .ref (q 0)), (1, .int (nI ((jct (jM S) (jN S))))), (2, .int ((jar S x + jarI S x i))), (3, .int (nI ((x + 1)))), (4, .int (nI (i)))]) 3 (nI ((x + 1))) dX1_area_95 rfl (ja_inc _) (by decide) rfl rfl ?_
          refine ja_goto K (tgt := 14) dX1_area_98 (by decide) ?_
          refine ja_locals (lv1 := [(0, .ref (q 0)), (1, .int (nI ((jct (jM S) (jN S))))), (2, .int ((jar S x + jarI S x i))), (3, .int (nI ((x + 1))))]) [0, 1, 2, 3] rfl ?_
          have e90 : jar S (x + 1) = (jar S x + jarI S x i) := by rw [show i = jN S by omega]; rfl
          have k9 := IH14 (x + 1) (by omega) (by omega)
          rw [e90] at k9
          exact k9
        · have b9 := jund_le S x i
          have b8 := jct_le (jM S) (jN S)
          refine ja_aload_n K 0 dX1_area_32 rfl ?_
          refine ja_iload K 4 dX1_area_33 rfl ?_
          refine ja_iload_n K 3 dX1_area_35 rfl ?_
          refine ja_callVI K (q0 := 0) (qc := (RX1, TX1, 16)) (st := []) [.int (nI (i)), .int (nI (x))] (jd_under l D q cI cZ S (jmsF (u) (nI 0)) hW9 hS9 (i) (x) (by omega) (by omega)) (cwV 2 K.1.2.2.2.2 (gX1_X1_under _) rfl rfl rfl (by decide +kernel) (by rw [hR9]; exact ⟨Nat.le_of_ble_eq_true rfl, Nat.le_of_ble_eq_true rfl⟩)) rfl rfl rfl rfl rfl (Nat.le_of_ble_eq_true rfl) dX1_area_36 (by rw [hR9]; exact ⟨Nat.le_of_ble_eq_true rfl, Nat.le_of_ble_eq_true rfl⟩) (fun r9 u9 h9 => ?_)
          obtain ⟨rfl, rfl⟩ := h9
          refine ja_istore K (lv1 := [(0, .ref (q 0)), (1, .int (nI ((jct (jM S) (jN S))))), (2, .int ((jar S x + jarI S x i))), (3, .int (nI (x))), (4, .int (nI (i))), (5, .int (nI ((jundS S (x) (i)))))]) dX1_area_39 (by decide) rfl rfl ?_
          refine ja_aload_n K 0 dX1_area_41 rfl ?_
          refine ja_iload K 4 dX1_area_42 rfl ?_
          refine ja_iload_n K 3 dX1_area_44 rfl ?_
          refine ja_callVI K (q0 := 0) (qc := (RX1, TX1, 16)) (st := []) [.int (nI (i)), .int (nI (x))] (jd_up l D q cI cZ (jmsF (u) (nI 0)) (i) (x) (by omega) (by omega) (jU S (x) (i)) (rU (x) (i) (by omega) (by omega))) (cwV 2 K.1.2.2.2.2 (gX1_X1_up _) rfl rfl rfl (by decide +kernel) (by rw [hR9]; exact ⟨Nat.le_of_ble_eq_true rfl, Nat.le_of_ble_eq_true rfl⟩)) rfl rfl rfl rfl rfl (Nat.le_of_ble_eq_true rfl) dX1_area_45 (by rw [hR9]; exact ⟨Nat.le_of_ble_eq_true rfl, Nat.le_of_ble_eq_true rfl⟩) (fun r9 u9 h9 => ?_)
          obtain ⟨rfl, rfl⟩ := h9
          refine ja_if_lt K (tgt := 87) (jU S (x) (i) = none) dX1_area_48 (by decide) (jeI_lt0 (fun p9 h9 => by have := (wu _ _ _ h9).2.1; omega)) (fun h48 => ?_) (fun h48 => ?_)
          · try rw [h48]
            refine ja_iload_n K 2 dX1_area_87 rfl ?_
            refine ja_istore_n K (lv1 := [(0, .ref (q 0)), (1, .int (nI ((jct (jM S) (jN S))))), (2, .int ((jar S x + jarI S x i))), (3, .int (nI (x))), (4, .int (nI (i))), (5, .int (nI ((jundS S (x) (i)))))]) dX1_area_88 (by decide) rfl rfl ?_
            refine ja_iinc K (lv1 := [(0, .ref (q 0)), (1, .int (nI ((jct (jM S) (jN S))))), (2, .int ((jar S x + jarI S x i))), (3, .int (nI (x))), (4, .int (nI ((i + 1)))), (5, .int (nI ((jundS S (x) (i)))))]) 4 (nI ((i + 1))) dX1_area_89 rfl (ja_inc _) (by decide) rfl rfl ?_
            refine ja_goto K (tgt := 23) dX1_area_92 (by decide) ?_
            refine ja_locals (lv1 := [(0, .ref (q 0)), (1, .int (nI ((jct (jM S) (jN S))))), (2, .int ((jar S x + jarI S x i))), (3, .int (nI (x))), (4, .int (nI ((i + 1))))]) [0, 1, 2, 3, 4] rfl ?_
            have e90 : jar S x + jarI S x (i + 1) = (jar S x + jarI S x i) := by rw [show jarI S x (i + 1) = jarI S x i + jarT S x i from rfl, jarT_none h48, Int32.add_zero]
            have k9 := IH23 (i + 1) (by omega) (by omega)
            rw [e90] at k9
            exact k9
          · obtain ⟨y48, ey48⟩ := Option.ne_none_iff_exists'.mp h48
            try rw [ey48]
            have by48 := wu _ _ _ ey48
            refine ja_iload K 5 dX1_area_51 rfl ?_
            refine ja_if_le K (tgt := 87) ((jundS S (x) (i)) ≤ 0) dX1_area_53 (by decide) (jz_le (by omega)) (fun h53 => ?_) (fun h53 => ?_)
            · refine ja_iload_n K 2 dX1_area_87 rfl ?_
              refine ja_istore_n K (lv1 := [(0, .ref (q 0)), (1, .int (nI ((jct (jM S) (jN S))))), (2, .int ((jar S x + jarI S x i))), (3, .int (nI (x))), (4, .int (nI (i))), (5, .int (nI ((jundS S (x) (i)))))]) dX1_area_88 (by decide) rfl rfl ?_
              refine ja_iinc K (lv1 := [(0, .ref (q 0)), (1, .int (nI ((jct (jM S) (jN S))))), (2, .int ((jar S x + jarI S x i))), (3, .int (nI (x))), (4, .int (nI ((i + 1)))), (5, .int (nI ((jundS S (x) (i)))))]) 4 (nI ((i + 1))) dX1_area_89 rfl (ja_inc _) (by decide) rfl rfl ?_
              refine ja_goto K (tgt := 23) dX1_area_92 (by decide) ?_
              refine ja_locals (lv1 := [(0, .ref (q 0)), (1, .int (nI ((jct (jM S) (jN S))))), (2, .int ((jar S x + jarI S x i))), (3, .int (nI (x))), (4, .int (nI ((i + 1))))]) [0, 1, 2, 3, 4] rfl ?_
              have e90 : jar S x + jarI S x (i + 1) = (jar S x + jarI S x i) := by rw [show jarI S x (i + 1) = jarI S x i + jarT S x i from rfl, jarT_neg ey48 (by omega), Int32.add_zero]
              have k9 := IH23 (i + 1) (by omega) (by omega)
              rw [e90] at k9
              exact k9
            · refine ja_iload K 5 dX1_area_56 rfl ?_
              refine ja_iload_n K 1 dX1_area_58 rfl ?_
              refine ja_icmp_ge K (tgt := 87) ((jct (jM S) (jN S)) ≤ (jundS S (x) (i))) dX1_area_59 (by decide) (nI_leI (by omega) (by omega)) (fun h59 => ?_) (fun h59 => ?_)
              · refine ja_iload_n K 2 dX1_area_87 rfl ?_
                refine ja_istore_n K (lv1 := [(0, .ref (q 0)), (1, .int (nI ((jct (jM S) (jN S))))), (2, .int ((jar S x + jarI S x i))), (3, .int (nI (x))), (4, .int (nI (i))), (5, .int (nI ((jundS S (x) (i)))))]) dX1_area_88 (by decide) rfl rfl ?_
                refine ja_iinc K (lv1 := [(0, .ref (q 0)), (1, .int (nI ((jct (jM S) (jN S))))), (2, .int ((jar S x + jarI S x i))), (3, .int (nI (x))), (4, .int (nI ((i + 1)))), (5, .int (nI ((jundS S (x) (i)))))]) 4 (nI ((i + 1))) dX1_area_89 rfl (ja_inc _) (by decide) rfl rfl ?_
                refine ja_goto K (tgt := 23) dX1_area_92 (by decide) ?_
                refine ja_locals (lv1 := [(0, .ref (q 0)), (1, .int (nI ((jct (jM S) (jN S))))), (2, .int ((jar S x + jarI S x i))), (3, .int (nI (x))), (4, .int (nI ((i + 1))))]) [0, 1, 2, 3, 4] rfl ?_
                have e90 : jar S x + jarI S x (i + 1) = (jar S x + jarI S x i) := by rw [show jarI S x (i + 1) = jarI S x i + jarT S x i from rfl, jarT_neg ey48 (by omega), Int32.add_zero]
                have k9 := IH23 (i + 1) (by omega) (by omega)
                rw [e90] at k9
                exact k9
              · refine ja_iload_n K 2 dX1_area_62 rfl ?_
                refine ja_aload_n K 0 dX1_area_63 rfl ?_
                refine ja_get K hu9 0 rfl rfl 2 (by decide) (List.mem_cons_of_mem _ kfX1_7) rfl rfl dX1_area_64 ?_
                refine ja_aload_n K 0 dX1_area_67 rfl ?_
                refine ja_iload K 4 dX1_area_68 rfl ?_
                refine ja_iload_n K 3 dX1_area_70 rfl ?_
                refine ja_callVI K (q0 := 0) (qc := (RX1, TX1, 16)) (st := [.ref (q 1), .int ((jar S x + jarI S x i))]) [.int (nI (i)), .int (nI (x))] (jd_up l D q cI cZ (jmsF (u) (nI 0)) (i) (x) (by omega) (by omega) (jU S (x) (i)) (rU (x) (i) (by omega) (by omega))) (cwV 2 K.1.2.2.2.2 (gX1_X1_up _) rfl rfl rfl (by decide +kernel) (by rw [hR9]; exact ⟨Nat.le_of_ble_eq_true rfl, Nat.le_of_ble_eq_true rfl⟩)) rfl rfl rfl rfl rfl (Nat.le_of_ble_eq_true rfl) dX1_area_71 (by rw [hR9]; exact ⟨Nat.le_of_ble_eq_true rfl, Nat.le_of_ble_eq_true rfl⟩) (fun r9 u9 h9 => ?_)
                obtain ⟨rfl, rfl⟩ := h9
                refine ja_iald K (v := nI ((jT S y48))) 1 0 rfl rfl (y48) (by rw [ey48]; rfl) (by omega) (by decide) (rT _ (by omega)) dX1_area_74 ?_
                refine ja_iadd K (((jar S x + jarI S x i) + nI ((jT S y48)))) dX1_area_75 rfl ?_
                refine ja_aload_n K 0 dX1_area_76 rfl ?_
                refine ja_get K hu9 0 rfl rfl 2 (by decide) (List.mem_cons_of_mem _ kfX1_7) rfl rfl dX1_area_77 ?_
                refine ja_iload K 4 dX1_area_80 rfl ?_
                refine ja_iald K (v := nI ((jT S (i)))) 1 0 rfl rfl (i) rfl (by omega) (by decide) (rT _ (by omega)) dX1_area_82 ?_
                refine ja_isub K ((((jar S x + jarI S x i) + nI ((jT S y48))) - nI ((jT S (i))))) dX1_area_83 rfl ?_
                refine ja_goto K (tgt := 88) dX1_area_84 (by decide) ?_
                refine ja_istore_n K (lv1 := [(0, .ref (q 0)), (1, .int (nI ((jct (jM S) (jN S))))), (2, .int ((((jar S x + jarI S x i) + nI ((jT S y48))) - nI ((jT S (i)))))), (3, .int (nI (x))), (4, .int (nI (i))), (5, .int (nI ((jundS S (x) (i)))))]) dX1_area_88 (by decide) rfl rfl ?_
                refine ja_iinc K (lv1 := [(0, .ref (q 0)), (1, .int (nI ((jct (jM S) (jN S))))), (2, .int ((((jar S x + jarI S x i) + nI ((jT S y48))) - nI ((jT S (i)))))), (3, .int (nI (x))), (4, .int (nI ((i + 1)))), (5, .int (nI ((jundS S (x) (i)))))]) 4 (nI ((i + 1))) dX1_area_89 rfl (ja_inc _) (by decide) rfl rfl ?_
                refine ja_goto K (tgt := 23) dX1_area_92 (by decide) ?_
                refine ja_locals (lv1 := [(0, .ref (q 0)), (1, .int (nI ((jct (jM S) (jN S))))), (2, .int ((((jar S x + jarI S x i) + nI ((jT S y48))) - nI ((jT S (i)))))), (3, .int (nI (x))), (4, .int (nI ((i + 1))))]) [0, 1, 2, 3, 4] rfl ?_
                have e90 : jar S x + jarI S x (i + 1) = (((jar S x + jarI S x i) + nI ((jT S y48))) - nI ((jT S (i)))) := by rw [show jarI S x (i + 1) = jarI S x i + jarT S x i from rfl, jarT_pos ey48 (by omega), ← Int32.add_assoc, ji_addsub]
                have k9 := IH23 (i + 1) (by omega) (by omega)
                rw [e90] at k9
                exact k9
      have k9 := L23 0 (Nat.zero_le _)
      rw [show jar S x + jarI S x 0 = jar S x from Int32.add_zero _] at k9
      exact k9
  exact L14 0 (Nat.zero_le _)
