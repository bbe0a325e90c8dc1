set_option maxRecDepth 100000 in
set_option maxHeartbeats 4000000 in
theorem jc_simplify (l : Launch) (D : va_G) (q : Nat → Nat) (cI cZ : ClassId) (S : JS) (u : JX) (hW9 : jWf S) (hS9 : jxR1 S u)  : jkI l yX0_simplify wsX0_simplify ({ frames := 3, cells := 0, slots := 0, locals := 71 }) D vwCl (jxt cI cZ) (jxc q cI cZ) [.ref (q 0)] (jxc q cI cZ u) (fun r u1 => nI (jrk S (jN S)) = r ∧ jxR1 (jsmall S) u1) := by
  refine jkI_of (cc := cX0_simplify) (maxL := 4) (ret := (some .int)) (by decide) rfl (Nat.le_of_ble_eq_true rfl) ?_
  intro p e R s m args below meth c Q A K hn9 hR9 hQ9
  obtain ⟨rN, rT, rM, rU, rK, rP, rA, rL, rB⟩ := id hS9
  obtain ⟨wn, wt, wu, wk, wp, wl, wb⟩ := id hW9
  have hu9 : ∀ w ∈ u_ws RX0 TX0 13, w ∈ wsX0_simplify := fun w h => List.mem_cons_of_mem _ (ku_X0 w h)
  show jaW p l e R s m args below meth c 0 0 Q D vwCl A 4 (jxc q cI cZ u) [(0, .ref (q 0))] 0 []
  refine ja_iconst K (nI 0) dX0_simplify_0 (by decide) ?_
  refine ja_istore_n K (lv1 := [(0, .ref (q 0)), (1, .int (nI 0))]) dX0_simplify_1 (by decide) rfl rfl ?_
  refine ja_iconst K (nI 0) dX0_simplify_2 (by decide) ?_
  refine ja_istore_n K (lv1 := [(0, .ref (q 0)), (1, .int (nI 0)), (2, .int (nI 0))]) dX0_simplify_3 (by decide) rfl rfl ?_
  have L4 : ∀ (x : Nat) (v : JX) (B : Nat), (x ≤ 60 ∧ jxR1 S v ∧ (∀ y, y < x → ∃ B1, jxG v y = nI B1 ∧ jbt S y B1) ∧ B < 16384 ∧ ∀ c1, B.testBit c1 = (decide (c1 < jN S) && jany (fun y => jmatS S y c1) x)) → jaW p l e R s m args below meth c 0 0 Q D vwCl A 4 (jxc q cI cZ v) [(0, .ref (q 0)), (1, .int (nI (B))), (2, .int (nI (x)))] 4 [] := by
    refine jl_3 (fun (x : Nat) (v : JX) (B : Nat) => 60 - x) (fun (x : Nat) (v : JX) (B : Nat) => x ≤ 60 ∧ jxR1 S v ∧ (∀ y, y < x → ∃ B1, jxG v y = nI B1 ∧ jbt S y B1) ∧ B < 16384 ∧ ∀ c1, B.testBit c1 = (decide (c1 < jN S) && jany (fun y => jmatS S y c1) x)) _ ?_
    intro x v B hI4 IH4
    obtain ⟨rN, rT, rM, rU, rK, rP, rA, rL, rB⟩ := id hI4.2.1
    refine ja_iload_n K 2 dX0_simplify_4 rfl ?_
    refine ja_bipush K (nI 60) dX0_simplify_5 (by decide) ?_
    refine ja_icmp_ge K (tgt := 36) (60 ≤ x) dX0_simplify_7 (by decide) (nI_leI (by omega) (by omega)) (fun h7 => ?_) (fun h7 => ?_)
    · refine ja_aload_n K 0 dX0_simplify_36 rfl ?_
      refine ja_iload_n K 1 dX0_simplify_37 rfl ?_
      refine ja_callVI K (q0 := 0) (qc := (RX0, TX0, 13)) (st := []) [.int (nI (B))] (jc_renumber l D q cI cZ (v) (B) hI4.2.2.2.1) (cwV 1 K.1.2.2.2.2 (gX0_X0_renumber _) rfl rfl rfl (by decide +kernel) (by rw [hR9]; exact ⟨Nat.le_of_ble_eq_true rfl, Nat.le_of_ble_eq_true rfl⟩)) rfl rfl rfl rfl rfl (Nat.le_of_ble_eq_true rfl) dX0_simplify_38 (by rw [hR9]; exact ⟨Nat.le_of_ble_eq_true rfl, Nat.le_of_ble_eq_true rfl⟩) (fun r9 u9 h9 => ?_)
      obtain ⟨h8, nb, rfl, hnb⟩ := h9
      have hst : ∀ c1, B.testBit c1 = (decide (c1 < jN S) && jstay S c1) := fun c1 => by rw [hI4.2.2.2.2 c1, show x = 60 by omega]; rfl
      rw [(jstayB hW9 hst).2] at h8
      subst h8
      have hPh : jxPh S 0 0 (jxsB v nb) := ⟨rN, rT, rM, fun x1 c1 h1 h2 => by rw [if_neg (Nat.not_lt_zero _)]; exact rU x1 c1 h1 h2, rK, rP, rA, fun i1 c1 h1 h2 => by rw [if_neg (Nat.not_lt_zero _)]; exact rL i1 c1 h1 h2, fun c1 h1 => by
        show nb c1 = _
        rw [hnb c1 h1, hst c1]
        by_cases q1 : c1 < jN S ∧ jstay S c1 = true
        · rw [if_pos (by simp [q1.1, q1.2]), jsm_B q1.1 q1.2, (jstayB hW9 hst).1 c1 (by omega)]
        · rw [if_neg (by simpa using q1), jsm_Bn q1], fun x1 h1 => hI4.2.2.1 x1 (by omega)⟩
      refine ja_istore_n K (lv1 := [(0, .ref (q 0)), (1, .int (nI (B))), (2, .int (nI ((jrk S (jN S)))))]) dX0_simplify_41 (by decide) rfl rfl ?_
      refine ja_iconst K (nI 0) dX0_simplify_42 (by decide) ?_
      refine ja_istore_n K (lv1 := [(0, .ref (q 0)), (1, .int (nI (B))), (2, .int (nI ((jrk S (jN S))))), (3, .int (nI 0))]) dX0_simplify_43 (by decide) rfl rfl ?_
      have L44 : ∀ (i : Nat) (v1 : JX), (i ≤ jK S ∧ jxPh S i 0 v1) → jaW p l e R s m args below meth c 0 0 Q D vwCl A 4 (jxc q cI cZ v1) [(0, .ref (q 0)), (1, .int (nI (B))), (2, .int (nI ((jrk S (jN S))))), (3, .int (nI (i)))] 44 [] := by
        refine jl_2 (fun (i : Nat) (v1 : JX) => jK S - i) (fun (i : Nat) (v1 : JX) => i ≤ jK S ∧ jxPh S i 0 v1) _ ?_
        intro i v1 hI44 IH44
        obtain ⟨rN, rT, rM, rU, rK, rP, rA, rL, rB, rG⟩ := id hI44.2
        refine ja_iload_n K 3 dX0_simplify_44 rfl ?_
        refine ja_aload_n K 0 dX0_simplify_45 rfl ?_
        refine ja_get K hu9 0 rfl rfl 4 (by decide) (List.mem_cons_of_mem _ kfX0_24) rfl (congrArg (fun z9 => some (Value.int z9)) rK) dX0_simplify_46 ?_
        refine ja_icmp_ge K (tgt := 63) ((jK S) ≤ i) dX0_simplify_49 (by decide) (nI_leI (by omega) (by omega)) (fun h49 => ?_) (fun h49 => ?_)
        · refine ja_iconst K (nI 0) dX0_simplify_63 (by decide) ?_
          refine ja_istore_n K (lv1 := [(0, .ref (q 0)), (1, .int (nI (B))), (2, .int (nI ((jrk S (jN S))))), (3, .int (nI 0))]) dX0_simplify_64 (by decide) rfl rfl ?_
          have L65 : ∀ (x1 : Nat) (v2 : JX), (x1 ≤ 60 ∧ jxPh S i x1 v2) → jaW p l e R s m args below meth c 0 0 Q D vwCl A 4 (jxc q cI cZ v2) [(0, .ref (q 0)), (1, .int (nI (B))), (2, .int (nI ((jrk S (jN S))))), (3, .int (nI (x1)))] 65 [] := by
            refine jl_2 (fun (x1 : Nat) (v2 : JX) => 60 - x1) (fun (x1 : Nat) (v2 : JX) => x1 ≤ 60 ∧ jxPh S i x1 v2) _ ?_
            intro x1 v2 hI65 IH65
            obtain ⟨rN, rT, rM, rU, rK, rP, rA, rL, rB, rG⟩ := id hI65.2
            refine ja_iload_n K 3 dX0_simplify_65 rfl ?_
            refine ja_bipush K (nI 60) dX0_simplify_66 (by decide) ?_
            refine ja_icmp_ge K (tgt := 82) (60 ≤ x1) dX0_simplify_68 (by decide) (nI_leI (by omega) (by omega)) (fun h68 => ?_) (fun h68 => ?_)
            · refine ja_aload_n K 0 dX0_simplify_82 rfl ?_
              refine ja_callVV K (q0 := 0) (qc := (RX0, TX0, 13)) (st := []) [] (jc_moveNodes l D q cI cZ S (v2) hW9 i x1 hI65.2) (cwV 0 K.1.2.2.2.2 (gX0_X0_moveNodes _) rfl rfl rfl (by decide +kernel) (by rw [hR9]; exact ⟨Nat.le_of_ble_eq_true rfl, Nat.le_of_ble_eq_true rfl⟩)) rfl rfl rfl rfl rfl (Nat.le_of_ble_eq_true rfl) dX0_simplify_83 (by rw [hR9]; exact ⟨Nat.le_of_ble_eq_true rfl, Nat.le_of_ble_eq_true rfl⟩) (fun u9 h9 => ?_)
              obtain ⟨ta, sa, rfl, hPn⟩ := h9
              refine ja_aload_n K 0 dX0_simplify_86 rfl ?_
              refine ja_iload_n K 2 dX0_simplify_87 rfl ?_
              refine ja_put K (ws1 := jxc q cI cZ (jxsN (jxsM (jxsT v2 ta) sa) (nI ((jrk S (jN S)))))) hu9 0 rfl rfl 0 (by decide) (List.mem_cons_of_mem _ kfX0_7) rfl tyX0 tyX0_ok nmX0 rfl rfl rfl rfl (Nat.le_of_ble_eq_true rfl) dX0_simplify_88 rfl ?_
              refine ja_iload_n K 2 dX0_simplify_91 rfl ?_
              exact ja_iret K (jxsN (jxsM (jxsT v2 ta) sa) (nI ((jrk S (jN S))))) rfl (Nat.zero_le _) (Nat.zero_le _) dX0_simplify_92 hQ9 rfl ⟨rfl, jPh_end hW9 hI65.2 (by omega) (by omega) hPn⟩
            · refine ja_aload_n K 0 dX0_simplify_71 rfl ?_
              refine ja_iload_n K 3 dX0_simplify_72 rfl ?_
              refine ja_callVV K (q0 := 0) (qc := (RX0, TX0, 13)) (st := []) [.int (nI (x1))] (jc_moveParents l D q cI cZ S (v2) hW9 i (x1) hI65.2 (by omega)) (cwV 1 K.1.2.2.2.2 (gX0_X0_moveParents _) rfl rfl rfl (by decide +kernel) (by rw [hR9]; exact ⟨Nat.le_of_ble_eq_true rfl, Nat.le_of_ble_eq_true rfl⟩)) rfl rfl rfl rfl rfl (Nat.le_of_ble_eq_true rfl) dX0_simplify_73 (by rw [hR9]; exact ⟨Nat.le_of_ble_eq_true rfl, Nat.le_of_ble_eq_true rfl⟩) (fun u9 h9 => ?_)
              obtain ⟨u73, rfl⟩ : ∃ z, z = u9 := ⟨_, rfl⟩
              have h73 := h9
              refine ja_iinc K (lv1 := [(0, .ref (q 0)), (1, .int (nI (B))), (2, .int (nI ((jrk S (jN S))))), (3, .int (nI ((x1 + 1))))]) 3 (nI ((x1 + 1))) dX0_simplify_76 rfl (ja_inc _) (by decide) rfl rfl ?_
              refine ja_goto K (tgt := 65) dX0_simplify_79 (by decide) ?_
              exact IH65 (x1 + 1) u73 ⟨by omega, h73⟩ (by omega)
          exact L65 0 v1 ⟨Nat.zero_le _, hI44.2⟩
        · refine ja_aload_n K 0 dX0_simplify_52 rfl ?_
          refine ja_iload_n K 3 dX0_simplify_53 rfl ?_
          refine ja_callVV K (q0 := 0) (qc := (RX0, TX0, 13)) (st := []) [.int (nI (i))] (jc_moveMutations l D q cI cZ S (v1) hW9 (i) hI44.2 (by omega)) (cwV 1 K.1.2.2.2.2 (gX0_X0_moveMutations _) rfl rfl rfl (by decide +kernel) (by rw [hR9]; exact ⟨Nat.le_of_ble_eq_true rfl, Nat.le_of_ble_eq_true rfl⟩)) rfl rfl rfl rfl rfl (Nat.le_of_ble_eq_true rfl) dX0_simplify_54 (by rw [hR9]; exact ⟨Nat.le_of_ble_eq_true rfl, Nat.le_of_ble_eq_true rfl⟩) (fun u9 h9 => ?_)
          obtain ⟨u54, rfl⟩ : ∃ z, z = u9 := ⟨_, rfl⟩
          have h54 := h9
          refine ja_iinc K (lv1 := [(0, .ref (q 0)), (1, .int (nI (B))), (2, .int (nI ((jrk S (jN S))))), (3, .int (nI ((i + 1))))]) 3 (nI ((i + 1))) dX0_simplify_57 rfl (ja_inc _) (by decide) rfl rfl ?_
          refine ja_goto K (tgt := 44) dX0_simplify_60 (by decide) ?_
          exact IH44 (i + 1) u54 ⟨by omega, h54⟩ (by omega)
      exact L44 0 (jxsB v nb) ⟨Nat.zero_le _, hPh⟩
    · refine ja_aload_n K 0 dX0_simplify_10 rfl ?_
      refine ja_get K hu9 0 rfl rfl 10 (by decide) (List.mem_cons_of_mem _ kfX0_42) rfl rfl dX0_simplify_11 ?_
      refine ja_iload_n K 2 dX0_simplify_14 rfl ?_
      refine ja_aload_n K 0 dX0_simplify_15 rfl ?_
      refine ja_iload_n K 2 dX0_simplify_16 rfl ?_
      refine ja_callVI K (q0 := 0) (qc := (RX0, TX0, 13)) (st := [.int (nI (x)), .ref (q 9)]) [.int (nI (x))] (jc_findMattering l D q cI cZ S (v) hW9 hI4.2.1 (x) (by omega)) (cwV 1 K.1.2.2.2.2 (gX0_X0_findMattering _) rfl rfl rfl (by decide +kernel) (by rw [hR9]; exact ⟨Nat.le_of_ble_eq_true rfl, Nat.le_of_ble_eq_true rfl⟩)) rfl rfl rfl rfl rfl (Nat.le_of_ble_eq_true rfl) dX0_simplify_17 (by rw [hR9]; exact ⟨Nat.le_of_ble_eq_true rfl, Nat.le_of_ble_eq_true rfl⟩) (fun r9 u9 h9 => ?_)
      obtain ⟨B17, rfl, hB17, g17, rfl⟩ := h9
      refine ja_iast K (ws1 := jxc q cI cZ (jxsG (jxsC v g17) (upd (jxG v) x (nI B17)))) 9 0 rfl rfl (x) rfl (by omega) (by decide) dX0_simplify_20 rfl ?_
      refine ja_iload_n K 1 dX0_simplify_21 rfl ?_
      refine ja_aload_n K 0 dX0_simplify_22 rfl ?_
      refine ja_get K hu9 0 rfl rfl 10 (by decide) (List.mem_cons_of_mem _ kfX0_42) rfl rfl dX0_simplify_23 ?_
      refine ja_iload_n K 2 dX0_simplify_26 rfl ?_
      refine ja_iald K (v := nI (B17)) 9 0 rfl rfl (x) rfl (by omega) (by decide) pk_us dX0_simplify_27 ?_
      refine ja_ior K (nI ((B ||| B17))) dX0_simplify_28 (jnI_or _ _) ?_
      refine ja_istore_n K (lv1 := [(0, .ref (q 0)), (1, .int (nI ((B ||| B17)))), (2, .int (nI (x)))]) dX0_simplify_29 (by decide) rfl rfl ?_
      refine ja_iinc K (lv1 := [(0, .ref (q 0)), (1, .int (nI ((B ||| B17)))), (2, .int (nI ((x + 1))))]) 2 (nI ((x + 1))) dX0_simplify_30 rfl (ja_inc _) (by decide) rfl rfl ?_
      refine ja_goto K (tgt := 4) dX0_simplify_33 (by decide) ?_
      exact IH4 (x + 1) (jxsG (jxsC v g17) (upd (jxG v) x (nI B17))) (B ||| B17) ⟨by omega, hI4.2.1, fun y hy => by
        by_cases q1 : y = x
        · subst q1; exact ⟨B17, pk_us, hB17⟩
        · obtain ⟨B1, b1, b2⟩ := hI4.2.2.1 y (by omega)
          exact ⟨B1, (pk_un q1).trans b1, b2⟩, Nat.or_lt_two_pow (n := 14) hI4.2.2.2.1 hB17.1, fun c1 => by rw [Nat.testBit_or, hI4.2.2.2.2 c1, hB17.2 c1]; simp only [jany]; cases decide (c1 < jN S) <;> simp⟩ (by omega)
  exact L4 0 u 0 ⟨Nat.zero_le _, hS9, fun y hy => absurd hy (Nat.not_lt_zero _), by decide, fun c1 => by simp [jany]⟩
