set_option maxRecDepth 100000 in
set_option maxHeartbeats 4000000 in
theorem jc_area (l : Launch) (D : va_G) (q : Nat → Nat) (cI cZ : ClassId) (S : JS) (u : JX) (hW9 : jWf S) (hS9 : jxR1 S u)  : jkI l yX0_area wsX0_area ({ frames := 2, cells := 0, slots := 0, locals := 47 }) D vwCl (jxt cI cZ) (jxc q cI cZ) [.ref (q 0)] (jxc q cI cZ u) (fun r u1 => jar S 60 = r ∧ jxR1 S u1) := by
  refine jkI_of (cc := cX0_area) (maxL := 6) (ret := (some .int)) (by decide) rfl (Nat.le_of_ble_eq_true rfl) ?_
  intro p e R s m args below meth c Q A K hn9 hR9 hQ9
  obtain ⟨rN, rT, rM, rU, rK, rP, rA, rL, rB⟩ := id hS9
  obtain ⟨wn, wt, wu, wk, wp, wl, wb⟩ := id hW9
  have hu9 : ∀ w ∈ u_ws RX0 TX0 13, w ∈ wsX0_area := fun w h => List.mem_cons_of_mem _ (ku_X0 w h)
  show jaW p l e R s m args below meth c 0 0 Q D vwCl A 6 (jxc q cI cZ u) [(0, .ref (q 0))] 0 []
  refine ja_aload_n K 0 dX0_area_0 rfl ?_
  refine ja_callVI K (q0 := 0) (qc := (RX0, TX0, 13)) (st := []) [] (jc_countSamples l D q cI cZ S (u) hW9 hS9) (cwV 0 K.1.2.2.2.2 (gX0_X0_countSamples _) rfl rfl rfl (by decide +kernel) (by rw [hR9]; exact ⟨Nat.le_of_ble_eq_true rfl, Nat.le_of_ble_eq_true rfl⟩)) rfl rfl rfl rfl rfl (Nat.le_of_ble_eq_true rfl) dX0_area_1 (by rw [hR9]; exact ⟨Nat.le_of_ble_eq_true rfl, Nat.le_of_ble_eq_true rfl⟩) (fun r9 u9 h9 => ?_)
  obtain ⟨rfl, rfl⟩ := h9
  refine ja_istore_n K (lv1 := [(0, .ref (q 0)), (1, .int (nI ((jct (jM S) (jN S)))))]) dX0_area_4 (by decide) rfl rfl ?_
  refine ja_iconst K (nI 0) dX0_area_5 (by decide) ?_
  refine ja_istore_n K (lv1 := [(0, .ref (q 0)), (1, .int (nI ((jct (jM S) (jN S))))), (2, .int (nI 0))]) dX0_area_6 (by decide) rfl rfl ?_
  refine ja_iconst K (nI 0) dX0_area_7 (by decide) ?_
  refine ja_istore_n K (lv1 := [(0, .ref (q 0)), (1, .int (nI ((jct (jM S) (jN S))))), (2, .int (nI 0)), (3, .int (nI 0))]) dX0_area_8 (by decide) rfl rfl ?_
  have L9 : ∀ (x : Nat) (v : JX), (x ≤ 60 ∧ jxR1 S v) → jaW p l e R s m args below meth c 0 0 Q D vwCl A 6 (jxc q cI cZ v) [(0, .ref (q 0)), (1, .int (nI ((jct (jM S) (jN S))))), (2, .int ((jar S x))), (3, .int (nI (x)))] 9 [] := by
    refine jl_2 (fun (x : Nat) (v : JX) => 60 - x) (fun (x : Nat) (v : JX) => x ≤ 60 ∧ jxR1 S v) _ ?_
    intro x v hI9 IH9
    obtain ⟨rN, rT, rM, rU, rK, rP, rA, rL, rB⟩ := id hI9.2
    refine ja_iload_n K 3 dX0_area_9 rfl ?_
    refine ja_bipush K (nI 60) dX0_area_10 (by decide) ?_
    refine ja_icmp_ge K (tgt := 98) (60 ≤ x) dX0_area_12 (by decide) (nI_leI (by omega) (by omega)) (fun h12 => ?_) (fun h12 => ?_)
    · refine ja_iload_n K 2 dX0_area_98 rfl ?_
      exact ja_iret K (v) rfl (Nat.zero_le _) (Nat.zero_le _) dX0_area_99 hQ9 rfl ⟨by rw [show x = 60 by omega], hI9.2⟩
    · refine ja_aload_n K 0 dX0_area_15 rfl ?_
      refine ja_iload_n K 3 dX0_area_16 rfl ?_
      refine ja_callVV K (q0 := 0) (qc := (RX0, TX0, 13)) (st := []) [.int (nI (x))] (jc_countCarried l D q cI cZ S (v) hW9 hI9.2 (x) (by omega)) (cwV 1 K.1.2.2.2.2 (gX0_X0_countCarried _) rfl rfl rfl (by decide +kernel) (by rw [hR9]; exact ⟨Nat.le_of_ble_eq_true rfl, Nat.le_of_ble_eq_true rfl⟩)) rfl rfl rfl rfl rfl (Nat.le_of_ble_eq_true rfl) dX0_area_17 (by rw [hR9]; exact ⟨Nat.le_of_ble_eq_true rfl, Nat.le_of_ble_eq_true rfl⟩) (fun u9 h9 => ?_)
      obtain ⟨g17, rfl, hg17⟩ := h9
      refine ja_iconst K (nI 0) dX0_area_20 (by decide) ?_
      refine ja_istore K (lv1 := [(0, .ref (q 0)), (1, .int (nI ((jct (jM S) (jN S))))), (2, .int ((jar S x))), (3, .int (nI (x))), (4, .int (nI 0))]) dX0_area_21 (by decide) rfl rfl ?_
      have L23 : ∀ (i : Nat), (i ≤ jN S) → jaW p l e R s m args below meth c 0 0 Q D vwCl A 6 (jxc q cI cZ (jxsC v g17)) [(0, .ref (q 0)), (1, .int (nI ((jct (jM S) (jN S))))), (2, .int ((jar S x + jarI S x i))), (3, .int (nI (x))), (4, .int (nI (i)))] 23 [] := by
        refine jl_1 (fun (i : Nat) => jN S - i) (fun (i : Nat) => i ≤ jN S) _ ?_
        intro i hI23 IH23
        refine ja_iload K 4 dX0_area_23 rfl ?_
        refine ja_aload_n K 0 dX0_area_25 rfl ?_
        refine ja_get K hu9 0 rfl rfl 0 (by decide) (List.mem_cons_of_mem _ kfX0_7) rfl (congrArg (fun z9 => some (Value.int z9)) rN) dX0_area_26 ?_
        refine ja_icmp_ge K (tgt := 92) ((jN S) ≤ i) dX0_area_29 (by decide) (nI_leI (by omega) (by omega)) (fun h29 => ?_) (fun h29 => ?_)
        · refine ja_iinc K (lv1 := [(0, .ref (q 0)), (1, .int (nI ((jct (jM S) (jN S))))), (2, .int ((jar S x + jarI S x i))), (3, .int (nI ((x + 1)))), (4, .int (nI (i)))]) 3 (nI ((x + 1))) dX0_area_92 rfl (ja_inc _) (by decide) rfl rfl ?_
          refine ja_goto K (tgt := 9) dX0_area_95 (by decide) ?_
          refine ja_locals (lv1 := [(0, .ref (q 0)), (1, .int (nI ((jct (jM S) (jN S))))), (2, .int ((jar S x + jarI S x i))), (3, .int (nI ((x + 1))))]) [0, 1, 2, 3] rfl ?_
          have e90 : jar S (x + 1) = (jar S x + jarI S x i) := by rw [show i = jN S by omega]; rfl
          have k9 := IH9 (x + 1) (jxsC v g17) ⟨by omega, hI9.2⟩ (by omega)
          rw [e90] at k9
          exact k9
        · have b9 := jund_le S x i
          have b8 := jct_le (jM S) (jN S)
          refine ja_aload_n K 0 dX0_area_32 rfl ?_
          refine ja_iload_n K 3 dX0_area_33 rfl ?_
          refine ja_iload K 4 dX0_area_34 rfl ?_
          refine ja_callVI K (q0 := 0) (qc := (RX0, TX0, 13)) (st := []) [.int (nI (x)), .int (nI (i))] (jc_parentAt l D q cI cZ (jxsC v g17) (x) (i) (by omega) (by omega) (jU S (x) (i)) (rU _ _ (by omega) (by omega))) (cwV 2 K.1.2.2.2.2 (gX0_X0_parentAt _) rfl rfl rfl (by decide +kernel) (by rw [hR9]; exact ⟨Nat.le_of_ble_eq_true rfl, Nat.le_of_ble_eq_true rfl⟩)) rfl rfl rfl rfl rfl (Nat.le_of_ble_eq_true rfl) dX0_area_36 (by rw [hR9]; exact ⟨Nat.le_of_ble_eq_true rfl, Nat.le_of_ble_eq_true rfl⟩) (fun r9 u9 h9 => ?_)
          obtain ⟨rfl, rfl⟩ := h9
          refine ja_istore K (lv1 := [(0, .ref (q 0)), (1, .int (nI ((jct (jM S) (jN S))))), (2, .int ((jar S x + jarI S x i))), (3, .int (nI (x))), (4, .int (nI (i))), (5, .int (jeI (jU S (x) (i))))]) dX0_area_39 (by decide) rfl rfl ?_
          refine ja_iload K 5 dX0_area_41 rfl ?_
          refine ja_iconst K (-1) dX0_area_43 (by decide) ?_
          refine ja_icmp_eq K (tgt := 86) (jU S (x) (i) = none) dX0_area_44 (by decide) (jeI_m1 (o := jU S (x) (i)) (fun p9 h9 => by have := (wu _ _ _ h9).2.1; omega)) (fun h44 => ?_) (fun h44 => ?_)
          · refine ja_iinc K (lv1 := [(0, .ref (q 0)), (1, .int (nI ((jct (jM S) (jN S))))), (2, .int ((jar S x + jarI S x i))), (3, .int (nI (x))), (4, .int (nI ((i + 1)))), (5, .int (jeI (jU S (x) (i))))]) 4 (nI ((i + 1))) dX0_area_86 rfl (ja_inc _) (by decide) rfl rfl ?_
            refine ja_goto K (tgt := 23) dX0_area_89 (by decide) ?_
            refine ja_locals (lv1 := [(0, .ref (q 0)), (1, .int (nI ((jct (jM S) (jN S))))), (2, .int ((jar S x + jarI S x i))), (3, .int (nI (x))), (4, .int (nI ((i + 1))))]) [0, 1, 2, 3, 4] rfl ?_
            have e90 : jar S x + jarI S x (i + 1) = (jar S x + jarI S x i) := by rw [show jarI S x (i + 1) = jarI S x i + jarT S x i from rfl, jarT_none h44, Int32.add_zero]
            have k9 := IH23 (i + 1) (by omega) (by omega)
            rw [e90] at k9
            exact k9
          · obtain ⟨y44, ey44⟩ := Option.ne_none_iff_exists'.mp h44
            try rw [ey44]
            have by44 := wu _ _ _ ey44
            refine ja_aload_n K 0 dX0_area_47 rfl ?_
            refine ja_get K hu9 0 rfl rfl 9 (by decide) (List.mem_cons_of_mem _ kfX0_39) rfl rfl dX0_area_48 ?_
            refine ja_iload K 4 dX0_area_51 rfl ?_
            refine ja_iald K (v := nI ((jundS S x i))) 8 0 rfl rfl (i) rfl (by omega) (by decide) (hg17 _ (by omega)) dX0_area_53 ?_
            refine ja_if_le K (tgt := 86) ((jundS S x i) ≤ 0) dX0_area_54 (by decide) (jz_le (by omega)) (fun h54 => ?_) (fun h54 => ?_)
            · refine ja_iinc K (lv1 := [(0, .ref (q 0)), (1, .int (nI ((jct (jM S) (jN S))))), (2, .int ((jar S x + jarI S x i))), (3, .int (nI (x))), (4, .int (nI ((i + 1)))), (5, .int (nI (y44)))]) 4 (nI ((i + 1))) dX0_area_86 rfl (ja_inc _) (by decide) rfl rfl ?_
              refine ja_goto K (tgt := 23) dX0_area_89 (by decide) ?_
              refine ja_locals (lv1 := [(0, .ref (q 0)), (1, .int (nI ((jct (jM S) (jN S))))), (2, .int ((jar S x + jarI S x i))), (3, .int (nI (x))), (4, .int (nI ((i + 1))))]) [0, 1, 2, 3, 4] rfl ?_
              have e90 : jar S x + jarI S x (i + 1) = (jar S x + jarI S x i) := by rw [show jarI S x (i + 1) = jarI S x i + jarT S x i from rfl, jarT_neg ey44 (by omega), Int32.add_zero]
              have k9 := IH23 (i + 1) (by omega) (by omega)
              rw [e90] at k9
              exact k9
            · refine ja_aload_n K 0 dX0_area_57 rfl ?_
              refine ja_get K hu9 0 rfl rfl 9 (by decide) (List.mem_cons_of_mem _ kfX0_39) rfl rfl dX0_area_58 ?_
              refine ja_iload K 4 dX0_area_61 rfl ?_
              refine ja_iald K (v := nI ((jundS S x i))) 8 0 rfl rfl (i) rfl (by omega) (by decide) (hg17 _ (by omega)) dX0_area_63 ?_
              refine ja_iload_n K 1 dX0_area_64 rfl ?_
              refine ja_icmp_ge K (tgt := 86) ((jct (jM S) (jN S)) ≤ (jundS S x i)) dX0_area_65 (by decide) (nI_leI (by omega) (by omega)) (fun h65 => ?_) (fun h65 => ?_)
              · refine ja_iinc K (lv1 := [(0, .ref (q 0)), (1, .int (nI ((jct (jM S) (jN S))))), (2, .int ((jar S x + jarI S x i))), (3, .int (nI (x))), (4, .int (nI ((i + 1)))), (5, .int (nI (y44)))]) 4 (nI ((i + 1))) dX0_area_86 rfl (ja_inc _) (by decide) rfl rfl ?_
                refine ja_goto K (tgt := 23) dX0_area_89 (by decide) ?_
                refine ja_locals (lv1 := [(0, .ref (q 0)), (1, .int (nI ((jct (jM S) (jN S))))), (2, .int ((jar S x + jarI S x i))), (3, .int (nI (x))), (4, .int (nI ((i + 1))))]) [0, 1, 2, 3, 4] rfl ?_
                have e90 : jar S x + jarI S x (i + 1) = (jar S x + jarI S x i) := by rw [show jarI S x (i + 1) = jarI S x i + jarT S x i from rfl, jarT_neg ey44 (by omega), Int32.add_zero]
                have k9 := IH23 (i + 1) (by omega) (by omega)
                rw [e90] at k9
                exact k9
              · refine ja_iload_n K 2 dX0_area_68 rfl ?_
                refine ja_aload_n K 0 dX0_area_69 rfl ?_
                refine ja_get K hu9 0 rfl rfl 1 (by decide) (List.mem_cons_of_mem _ kfX0_13) rfl rfl dX0_area_70 ?_
                refine ja_iload K 5 dX0_area_73 rfl ?_
                refine ja_iald K (v := nI ((jT S (y44)))) 1 0 rfl rfl (y44) rfl (by omega) (by decide) (rT _ (by omega)) dX0_area_75 ?_
                refine ja_aload_n K 0 dX0_area_76 rfl ?_
                refine ja_get K hu9 0 rfl rfl 1 (by decide) (List.mem_cons_of_mem _ kfX0_13) rfl rfl dX0_area_77 ?_
                refine ja_iload K 4 dX0_area_80 rfl ?_
                refine ja_iald K (v := nI ((jT S (i)))) 1 0 rfl rfl (i) rfl (by omega) (by decide) (rT _ (by omega)) dX0_area_82 ?_
                refine ja_isub K ((nI ((jT S (y44))) - nI ((jT S (i))))) dX0_area_83 rfl ?_
                refine ja_iadd K (((jar S x + jarI S x i) + (nI ((jT S (y44))) - nI ((jT S (i)))))) dX0_area_84 rfl ?_
                refine ja_istore_n K (lv1 := [(0, .ref (q 0)), (1, .int (nI ((jct (jM S) (jN S))))), (2, .int (((jar S x + jarI S x i) + (nI ((jT S (y44))) - nI ((jT S (i))))))), (3, .int (nI (x))), (4, .int (nI (i))), (5, .int (nI (y44)))]) dX0_area_85 (by decide) rfl rfl ?_
                refine ja_iinc K (lv1 := [(0, .ref (q 0)), (1, .int (nI ((jct (jM S) (jN S))))), (2, .int (((jar S x + jarI S x i) + (nI ((jT S (y44))) - nI ((jT S (i))))))), (3, .int (nI (x))), (4, .int (nI ((i + 1)))), (5, .int (nI (y44)))]) 4 (nI ((i + 1))) dX0_area_86 rfl (ja_inc _) (by decide) rfl rfl ?_
                refine ja_goto K (tgt := 23) dX0_area_89 (by decide) ?_
                refine ja_locals (lv1 := [(0, .ref (q 0)), (1, .int (nI ((jct (jM S) (jN S))))), (2, .int (((jar S x + jarI S x i) + (nI ((jT S (y44))) - nI ((jT S (i))))))), (3, .int (nI (x))), (4, .int (nI ((i + 1))))]) [0, 1, 2, 3, 4] rfl ?_
                have e90 : jar S x + jarI S x (i + 1) = ((jar S x + jarI S x i) + (nI ((jT S (y44))) - nI ((jT S (i))))) := by rw [show jarI S x (i + 1) = jarI S x i + jarT S x i from rfl, jarT_pos ey44 (by omega), Int32.add_assoc]
                have k9 := IH23 (i + 1) (by omega) (by omega)
                rw [e90] at k9
                exact k9
      have k9 := L23 0 (Nat.zero_le _)
      rw [show jar S x + jarI S x 0 = jar S x from Int32.add_zero _] at k9
      exact k9
  exact L9 0 u ⟨Nat.zero_le _, hS9⟩
