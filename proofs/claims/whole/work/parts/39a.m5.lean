set_option maxRecDepth 100000 in
set_option maxHeartbeats 4000000 in
theorem jd_count (l : Launch) (D : va_G) (q : Nat → Nat) (cI cZ : ClassId) (S : JS) (u : JM) (hW9 : jWf S) (hS9 : jmR1 S u) (z : Int32) : jkI l yX1_count wsX1_count ({ frames := 3, cells := 0, slots := 0, locals := 70 }) D vwCl (jxt cI cZ) (jmc q cI cZ) [.ref (q 0), .int z] (jmc q cI cZ u) (fun r u1 => jcount S z = r ∧ jmR1 S u1 ∧ jmF u1 = nI 0) := by
  refine jkI_of (cc := cX1_count) (maxL := 5) (ret := (some .int)) (by decide) rfl (Nat.le_of_ble_eq_true rfl) ?_
  intro p e R s m args below meth c Q A K hn9 hR9 hQ9
  obtain ⟨rN, rT, rM, rU, rK, rP, rA, rL, rB⟩ := id hS9
  obtain ⟨wn, wt, wu, wk, wp, wl, wb⟩ := id hW9
  have hu9 : ∀ w ∈ u_ws RX1 TX1 16, w ∈ wsX1_count := fun w h => List.mem_cons_of_mem _ (ku_X1 w h)
  show jaW p l e R s m args below meth c 0 0 Q D vwCl A 5 (jmc q cI cZ u) [(0, .ref (q 0)), (1, .int (z))] 0 []
  refine ja_aload_n K 0 dX1_count_0 rfl ?_
  refine ja_iconst K (nI 0) dX1_count_1 (by decide) ?_
  refine ja_put K (ws1 := jmc q cI cZ (jmsF (u) (nI 0))) hu9 0 rfl rfl 0 (by decide) (List.mem_cons_of_mem _ kfX1_38) rfl tyX1 tyX1_ok nmX1 rfl rfl rfl rfl (Nat.le_of_ble_eq_true rfl) dX1_count_2 rfl ?_
  refine ja_iconst K (nI 0) dX1_count_5 (by decide) ?_
  refine ja_istore_n K (lv1 := [(0, .ref (q 0)), (1, .int (z)), (2, .int (nI 0))]) dX1_count_6 (by decide) rfl rfl ?_
  refine ja_iload_n K 1 dX1_count_7 rfl ?_
  rcases jsw5 z with rfl | rfl | rfl | rfl | rfl | ⟨hz, hz0, hz1, hz2, hz3, hz4⟩
  · refine ja_tableIn K (off := 36) (tgt := 44) dX1_count_8 (by decide) (by decide) (by decide) (by decide) ?_
    refine ja_aload_n K 0 dX1_count_44 rfl ?_
    refine ja_get K hu9 0 rfl rfl 1 (by decide) (List.mem_cons_of_mem _ kfX1_42) rfl (congrArg (fun z9 => some (Value.int z9)) rN) dX1_count_45 ?_
    exact ja_iret K (jmsF (u) (nI 0)) rfl (Nat.zero_le _) (Nat.zero_le _) dX1_count_48 hQ9 rfl ⟨rfl, hS9, rfl⟩
  · refine ja_tableIn K (off := 41) (tgt := 49) dX1_count_8 (by decide) (by decide) (by decide) (by decide) ?_
    refine ja_aload_n K 0 dX1_count_49 rfl ?_
    refine ja_callVI K (q0 := 0) (qc := (RX1, TX1, 16)) (st := []) [] (jd_samples l D q cI cZ S (jmsF (u) (nI 0)) hW9 hS9) (cwV 0 K.1.2.2.2.2 (gX1_X1_samples _) rfl rfl rfl (by decide +kernel) (by rw [hR9]; exact ⟨Nat.le_of_ble_eq_true rfl, Nat.le_of_ble_eq_true rfl⟩)) rfl rfl rfl rfl rfl (Nat.le_of_ble_eq_true rfl) dX1_count_50 (by rw [hR9]; exact ⟨Nat.le_of_ble_eq_true rfl, Nat.le_of_ble_eq_true rfl⟩) (fun r9 u9 h9 => ?_)
    obtain ⟨rfl, rfl⟩ := h9
    exact ja_iret K (jmsF (u) (nI 0)) rfl (Nat.zero_le _) (Nat.zero_le _) dX1_count_53 hQ9 rfl ⟨rfl, hS9, rfl⟩
  · refine ja_tableIn K (off := 46) (tgt := 54) dX1_count_8 (by decide) (by decide) (by decide) (by decide) ?_
    refine ja_aload_n K 0 dX1_count_54 rfl ?_
    refine ja_iconst K (-1) dX1_count_55 (by decide) ?_
    refine ja_callVI K (q0 := 0) (qc := (RX1, TX1, 16)) (st := []) [.int (-1)] (jd_find l D q cI cZ S (jmsF (u) (nI 0)) hW9 hS9 (-1)) (cwV 1 K.1.2.2.2.2 (gX1_X1_find _) rfl rfl rfl (by decide +kernel) (by rw [hR9]; exact ⟨Nat.le_of_ble_eq_true rfl, Nat.le_of_ble_eq_true rfl⟩)) rfl rfl rfl rfl rfl (Nat.le_of_ble_eq_true rfl) dX1_count_56 (by rw [hR9]; exact ⟨Nat.le_of_ble_eq_true rfl, Nat.le_of_ble_eq_true rfl⟩) (fun r9 u9 h9 => ?_)
    obtain ⟨rfl, hS8, hfd8, hF8⟩ := h9
    exact ja_iret K (u9) rfl (Nat.zero_le _) (Nat.zero_le _) dX1_count_59 hQ9 rfl ⟨by rw [jes_ct hW9]; rfl, hS8, hF8⟩
  · refine ja_tableIn K (off := 52) (tgt := 60) dX1_count_8 (by decide) (by decide) (by decide) (by decide) ?_
    refine ja_aload_n K 0 dX1_count_60 rfl ?_
    refine ja_get K hu9 0 rfl rfl 5 (by decide) (List.mem_cons_of_mem _ kfX1_45) rfl (congrArg (fun z9 => some (Value.int z9)) rK) dX1_count_61 ?_
    exact ja_iret K (jmsF (u) (nI 0)) rfl (Nat.zero_le _) (Nat.zero_le _) dX1_count_64 hQ9 rfl ⟨rfl, hS9, rfl⟩
  · refine ja_tableIn K (off := 57) (tgt := 65) dX1_count_8 (by decide) (by decide) (by decide) (by decide) ?_
    refine ja_iconst K (nI 0) dX1_count_65 (by decide) ?_
    refine ja_istore_n K (lv1 := [(0, .ref (q 0)), (1, .int (nI 4)), (2, .int (nI 0)), (3, .int (nI 0))]) dX1_count_66 (by decide) rfl rfl ?_
    have L67 : ∀ (i : Nat), (i ≤ jK S) → jaW p l e R s m args below meth c 0 0 Q D vwCl A 5 (jmc q cI cZ (jmsF (u) (nI 0))) [(0, .ref (q 0)), (1, .int (nI 4)), (2, .int (nI ((jsm (fun i => jct (fun c1 => (jL S i c1).isSome) (jN S)) i)))), (3, .int (nI (i)))] 67 [] := by
      refine jl_1 (fun (i : Nat) => jK S - i) (fun (i : Nat) => i ≤ jK S) _ ?_
      intro i hI67 IH67
      refine ja_iload_n K 3 dX1_count_67 rfl ?_
      refine ja_aload_n K 0 dX1_count_68 rfl ?_
      refine ja_get K hu9 0 rfl rfl 5 (by decide) (List.mem_cons_of_mem _ kfX1_45) rfl (congrArg (fun z9 => some (Value.int z9)) rK) dX1_count_69 ?_
      refine ja_icmp_ge K (tgt := 122) ((jK S) ≤ i) dX1_count_72 (by decide) (nI_leI (by omega) (by omega)) (fun h72 => ?_) (fun h72 => ?_)
      · refine ja_iload_n K 2 dX1_count_122 rfl ?_
        exact ja_iret K (jmsF (u) (nI 0)) rfl (Nat.zero_le _) (Nat.zero_le _) dX1_count_123 hQ9 rfl ⟨by show nI (jcm S) = _; rw [jcm, show i = jK S by omega], hS9, rfl⟩
      · refine ja_iconst K (nI 0) dX1_count_75 (by decide) ?_
        refine ja_istore K (lv1 := [(0, .ref (q 0)), (1, .int (nI 4)), (2, .int (nI ((jsm (fun i => jct (fun c1 => (jL S i c1).isSome) (jN S)) i)))), (3, .int (nI (i))), (4, .int (nI 0))]) dX1_count_76 (by decide) rfl rfl ?_
        have L78 : ∀ (n0 : Nat), (n0 ≤ jN S) → jaW p l e R s m args below meth c 0 0 Q D vwCl A 5 (jmc q cI cZ (jmsF (u) (nI 0))) [(0, .ref (q 0)), (1, .int (nI 4)), (2, .int (nI ((jsm (fun i => jct (fun c1 => (jL S i c1).isSome) (jN S)) i + jct (fun c1 => (jL S i c1).isSome) n0)))), (3, .int (nI (i))), (4, .int (nI (n0)))] 78 [] := by
          refine jl_1 (fun (n0 : Nat) => jN S - n0) (fun (n0 : Nat) => n0 ≤ jN S) _ ?_
          intro n0 hI78 IH78
          refine ja_iload K 4 dX1_count_78 rfl ?_
          refine ja_aload_n K 0 dX1_count_80 rfl ?_
          refine ja_get K hu9 0 rfl rfl 1 (by decide) (List.mem_cons_of_mem _ kfX1_42) rfl (congrArg (fun z9 => some (Value.int z9)) rN) dX1_count_81 ?_
          refine ja_icmp_ge K (tgt := 116) ((jN S) ≤ n0) dX1_count_84 (by decide) (nI_leI (by omega) (by omega)) (fun h84 => ?_) (fun h84 => ?_)
          · refine ja_iinc K (lv1 := [(0, .ref (q 0)), (1, .int (nI 4)), (2, .int (nI ((jsm (fun i => jct (fun c1 => (jL S i c1).isSome) (jN S)) i + jct (fun c1 => (jL S i c1).isSome) n0)))), (3, .int (nI ((i + 1)))), (4, .int (nI (n0)))]) 3 (nI ((i + 1))) dX1_count_116 rfl (ja_inc _) (by decide) rfl rfl ?_
            refine ja_goto K (tgt := 67) dX1_count_119 (by decide) ?_
            refine ja_locals (lv1 := [(0, .ref (q 0)), (1, .int (nI 4)), (2, .int (nI ((jsm (fun i => jct (fun c1 => (jL S i c1).isSome) (jN S)) i + jct (fun c1 => (jL S i c1).isSome) n0)))), (3, .int (nI ((i + 1))))]) [0, 1, 2, 3] rfl ?_
            have e90 : jsm (fun i => jct (fun c1 => (jL S i c1).isSome) (jN S)) (i + 1) = (jsm (fun i => jct (fun c1 => (jL S i c1).isSome) (jN S)) i + jct (fun c1 => (jL S i c1).isSome) n0) := by rw [show n0 = jN S by omega]; rfl
            have k9 := IH67 (i + 1) (by omega) (by omega)
            rw [e90] at k9
            exact k9
          · refine ja_aload_n K 0 dX1_count_87 rfl ?_
            refine ja_get K hu9 0 rfl rfl 8 (by decide) (List.mem_cons_of_mem _ kfX1_26) rfl rfl dX1_count_88 ?_
            refine ja_bipush K (nI 14) dX1_count_91 (by decide) ?_
            refine ja_iload_n K 3 dX1_count_93 rfl ?_
            refine ja_imul K (nI ((14 * i))) dX1_count_94 (pk_mul _ _) ?_
            refine ja_iload K 4 dX1_count_95 rfl ?_
            refine ja_iadd K (nI (((14 * i) + n0))) dX1_count_97 (nI_add _ _) ?_
            have b99 := joN_lt (o := jL S i n0) (n := 4) (fun p h => (wl _ _ p h).2.2)
            refine ja_iald K (v := nI ((joN (jL S (i) (n0))))) 6 0 rfl rfl (((14 * i) + n0)) rfl (by omega) (by decide) (rL _ _ (by omega) (by omega)) dX1_count_98 ?_
            refine ja_if_le K (tgt := 108) ((joN (jL S (i) (n0))) ≤ 0) dX1_count_99 (by decide) (jz_le (by omega)) (fun h99 => ?_) (fun h99 => ?_)
            · refine ja_iload_n K 2 dX1_count_108 rfl ?_
              refine ja_istore_n K (lv1 := [(0, .ref (q 0)), (1, .int (nI 4)), (2, .int (nI ((jsm (fun i => jct (fun c1 => (jL S i c1).isSome) (jN S)) i + jct (fun c1 => (jL S i c1).isSome) n0)))), (3, .int (nI (i))), (4, .int (nI (n0)))]) dX1_count_109 (by decide) rfl rfl ?_
              refine ja_iinc K (lv1 := [(0, .ref (q 0)), (1, .int (nI 4)), (2, .int (nI ((jsm (fun i => jct (fun c1 => (jL S i c1).isSome) (jN S)) i + jct (fun c1 => (jL S i c1).isSome) n0)))), (3, .int (nI (i))), (4, .int (nI ((n0 + 1))))]) 4 (nI ((n0 + 1))) dX1_count_110 rfl (ja_inc _) (by decide) rfl rfl ?_
              refine ja_goto K (tgt := 78) dX1_count_113 (by decide) ?_
              have e90 : jsm (fun i => jct (fun c1 => (jL S i c1).isSome) (jN S)) i + jct (fun c1 => (jL S i c1).isSome) (n0 + 1) = (jsm (fun i => jct (fun c1 => (jL S i c1).isSome) (jN S)) i + jct (fun c1 => (jL S i c1).isSome) n0) := by
                rw [show jct (fun c1 => (jL S i c1).isSome) (n0 + 1) = jct (fun c1 => (jL S i c1).isSome) n0 + (if (jL S i n0).isSome = true then 1 else 0) from rfl]
                rw [if_neg (by cases q1 : jL S i n0 <;> simp [q1, joN] at h99 ⊢)]
                rfl
              have k9 := IH78 (n0 + 1) (by omega) (by omega)
              rw [e90] at k9
              exact k9
            · refine ja_iload_n K 2 dX1_count_102 rfl ?_
              refine ja_iconst K (nI 1) dX1_count_103 (by decide) ?_
              refine ja_iadd K (nI (((jsm (fun i => jct (fun c1 => (jL S i c1).isSome) (jN S)) i + jct (fun c1 => (jL S i c1).isSome) n0) + 1))) dX1_count_104 (nI_add _ _) ?_
              refine ja_goto K (tgt := 109) dX1_count_105 (by decide) ?_
              refine ja_istore_n K (lv1 := [(0, .ref (q 0)), (1, .int (nI 4)), (2, .int (nI (((jsm (fun i => jct (fun c1 => (jL S i c1).isSome) (jN S)) i + jct (fun c1 => (jL S i c1).isSome) n0) + 1)))), (3, .int (nI (i))), (4, .int (nI (n0)))]) dX1_count_109 (by decide) rfl rfl ?_
              refine ja_iinc K (lv1 := [(0, .ref (q 0)), (1, .int (nI 4)), (2, .int (nI (((jsm (fun i => jct (fun c1 => (jL S i c1).isSome) (jN S)) i + jct (fun c1 => (jL S i c1).isSome) n0) + 1)))), (3, .int (nI (i))), (4, .int (nI ((n0 + 1))))]) 4 (nI ((n0 + 1))) dX1_count_110 rfl (ja_inc _) (by decide) rfl rfl ?_
              refine ja_goto K (tgt := 78) dX1_count_113 (by decide) ?_
              have e90 : jsm (fun i => jct (fun c1 => (jL S i c1).isSome) (jN S)) i + jct (fun c1 => (jL S i c1).isSome) (n0 + 1) = ((jsm (fun i => jct (fun c1 => (jL S i c1).isSome) (jN S)) i + jct (fun c1 => (jL S i c1).isSome) n0) + 1) := by
                rw [show jct (fun c1 => (jL S i c1).isSome) (n0 + 1) = jct (fun c1 => (jL S i c1).isSome) n0 + (if (jL S i n0).isSome = true then 1 else 0) from rfl]
                rw [if_pos (by cases q1 : jL S i n0 <;> simp [q1, joN] at h99 ⊢)]
                exact (Nat.add_assoc _ _ _).symm
              have k9 := IH78 (n0 + 1) (by omega) (by omega)
              rw [e90] at k9
              exact k9
        exact L78 0 (Nat.zero_le _)
    exact L67 0 (Nat.zero_le _)
  · refine ja_tableOut K (tgt := 124) dX1_count_8 hz (by decide) ?_
    refine ja_iconst K (-1) dX1_count_124 (by decide) ?_
    exact ja_iret K (jmsF (u) (nI 0)) rfl (Nat.zero_le _) (Nat.zero_le _) dX1_count_125 hQ9 rfl ⟨by simp only [jcount, hz0, hz1, hz2, hz3, hz4, if_false], hS9, rfl⟩
