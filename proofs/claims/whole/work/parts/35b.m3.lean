set_option maxRecDepth 100000 in
set_option maxHeartbeats 4000000 in
theorem jd_node (l : Launch) (D : va_G) (q : Nat → Nat) (cI cZ : ClassId) (S : JS) (u : JM) (hW9 : jWf S) (hS9 : jmR1 S u) (z : Int32) (b : Bool) : jkI l yX1_node wsX1_node ({ frames := 1, cells := 0, slots := 0, locals := 21 }) D vwCl (jxt cI cZ) (jmc q cI cZ) [.ref (q 0), .int z, .int (jbI b)] (jmc q cI cZ u) (fun r u1 => jmF u1 = nI (jcN S z) ∧ ((jcN S z) = 0 → nI (jN S) = r) ∧ ((jcN S z) = 0 → jmR1 (jaddN S z b) u1) ∧ (¬ (jcN S z) = 0 → jmR1 S u1)) := by
  refine jkI_of (cc := cX1_node) (maxL := 4) (ret := (some .int)) (by decide) rfl (Nat.le_of_ble_eq_true rfl) ?_
  intro p e R s m args below meth c Q A K hn9 hR9 hQ9
  obtain ⟨rN, rT, rM, rU, rK, rP, rA, rL, rB⟩ := id hS9
  obtain ⟨wn, wt, wu, wk, wp, wl, wb⟩ := id hW9
  have hu9 : ∀ w ∈ u_ws RX1 TX1 16, w ∈ wsX1_node := fun w h => List.mem_cons_of_mem _ (ku_X1 w h)
  show jaW p l e R s m args below meth c 0 0 Q D vwCl A 4 (jmc q cI cZ u) [(0, .ref (q 0)), (1, .int (z)), (2, .int (jbI (b)))] 0 []
  refine ja_aload_n K 0 dX1_node_0 rfl ?_
  refine ja_iload_n K 1 dX1_node_1 rfl ?_
  refine ja_if_lt K (tgt := 12) (z < 0) dX1_node_2 (by decide) Iff.rfl (fun h2 => ?_) (fun h2 => ?_)
  · have f2 : jin z 1001 = false := jin_ff1 h2
    refine ja_iconst K (nI 1) dX1_node_12 (by decide) ?_
    refine ja_goto K (tgt := 30) dX1_node_13 (by decide) ?_
    refine ja_callVI K (q0 := 0) (qc := (RX1, TX1, 16)) (st := []) [.int (nI 1)] (jd_refused l D q cI cZ (u) (1) (by omega)) (cwV 1 K.1.2.2.2.2 (gX1_X1_refused _) rfl rfl rfl (by decide +kernel) (by rw [hR9]; exact ⟨Nat.le_of_ble_eq_true rfl, Nat.le_of_ble_eq_true rfl⟩)) rfl rfl rfl rfl rfl (Nat.le_of_ble_eq_true rfl) dX1_node_30 (by rw [hR9]; exact ⟨Nat.le_of_ble_eq_true rfl, Nat.le_of_ble_eq_true rfl⟩) (fun r9 u9 h9 => ?_)
    obtain ⟨rfl, rfl⟩ := h9
    refine ja_if_eq K (tgt := 38) (decide (0 < 1) = false) dX1_node_33 (by decide) (jbI_ne _) (fun h33 => ?_) (fun h33 => ?_)
    · exact absurd h33 (by decide)
    · refine ja_iconst K (nI 0) dX1_node_36 (by decide) ?_
      exact ja_iret K (jmsF (u) (nI 1)) rfl (Nat.zero_le _) (Nat.zero_le _) dX1_node_37 hQ9 rfl ⟨by rw [show jcN S _ = 1 by simp [jcN, h2, f2, h33]]; rfl, fun h => (by rw [show jcN S _ = 1 by simp [jcN, h2, f2, h33]] at h; cases h), fun h => (by rw [show jcN S _ = 1 by simp [jcN, h2, f2, h33]] at h; cases h), fun _ => hS9⟩
  · refine ja_iload_n K 1 dX1_node_5 rfl ?_
    refine ja_sipush K (nI 1000) dX1_node_6 (by decide) ?_
    refine ja_icmp_le K (tgt := 16) (z ≤ nI 1000) dX1_node_9 (by decide) Iff.rfl (fun h9 => ?_) (fun h9 => ?_)
    · have f9 : jin z 1001 = true := jin_le h2 h9
      obtain ⟨t0, ht0, rfl⟩ := jin_of f9 (by omega)
      refine ja_aload_n K 0 dX1_node_16 rfl ?_
      refine ja_get K hu9 0 rfl rfl 1 (by decide) (List.mem_cons_of_mem _ kfX1_42) rfl (congrArg (fun z9 => some (Value.int z9)) rN) dX1_node_17 ?_
      refine ja_bipush K (nI 14) dX1_node_20 (by decide) ?_
      refine ja_icmp_ne K (tgt := 29) (¬ (jN S) = 14) dX1_node_22 (by decide) (not_congr (nI_eq (by omega) (by omega))) (fun h22 => ?_) (fun h22 => ?_)
      · refine ja_iconst K (nI 0) dX1_node_29 (by decide) ?_
        refine ja_callVI K (q0 := 0) (qc := (RX1, TX1, 16)) (st := []) [.int (nI 0)] (jd_refused l D q cI cZ (u) (0) (by omega)) (cwV 1 K.1.2.2.2.2 (gX1_X1_refused _) rfl rfl rfl (by decide +kernel) (by rw [hR9]; exact ⟨Nat.le_of_ble_eq_true rfl, Nat.le_of_ble_eq_true rfl⟩)) rfl rfl rfl rfl rfl (Nat.le_of_ble_eq_true rfl) dX1_node_30 (by rw [hR9]; exact ⟨Nat.le_of_ble_eq_true rfl, Nat.le_of_ble_eq_true rfl⟩) (fun r9 u9 h9 => ?_)
        obtain ⟨rfl, rfl⟩ := h9
        refine ja_if_eq K (tgt := 38) (decide (0 < 0) = false) dX1_node_33 (by decide) (jbI_ne _) (fun h33 => ?_) (fun h33 => ?_)
        · refine ja_aload_n K 0 dX1_node_38 rfl ?_
          refine ja_get K hu9 0 rfl rfl 2 (by decide) (List.mem_cons_of_mem _ kfX1_7) rfl rfl dX1_node_39 ?_
          refine ja_aload_n K 0 dX1_node_42 rfl ?_
          refine ja_get K hu9 0 rfl rfl 1 (by decide) (List.mem_cons_of_mem _ kfX1_42) rfl (congrArg (fun z9 => some (Value.int z9)) rN) dX1_node_43 ?_
          refine ja_iload_n K 1 dX1_node_46 rfl ?_
          refine ja_iast K (ws1 := jmc q cI cZ (jmsT (jmsF (u) (nI 0)) (upd (jmT u) (jN S) (nI t0)))) 1 0 rfl rfl ((jN S)) rfl (by omega) (by decide) dX1_node_47 rfl ?_
          refine ja_aload_n K 0 dX1_node_48 rfl ?_
          refine ja_get K hu9 0 rfl rfl 3 (by decide) (List.mem_cons_of_mem _ kfX1_13) rfl rfl dX1_node_49 ?_
          refine ja_aload_n K 0 dX1_node_52 rfl ?_
          refine ja_get K hu9 0 rfl rfl 1 (by decide) (List.mem_cons_of_mem _ kfX1_42) rfl (congrArg (fun z9 => some (Value.int z9)) rN) dX1_node_53 ?_
          refine ja_iload_n K 2 dX1_node_56 rfl ?_
          refine ja_zast K (ws1 := jmc q cI cZ (jmsM (jmsT (jmsF (u) (nI 0)) (upd (jmT u) (jN S) (nI t0))) (upd (jmM u) (jN S) (jbI b)))) 2 1 rfl rfl ((jN S)) (jbI_nar _) rfl (by omega) (by decide) dX1_node_57 rfl ?_
          refine ja_iconst K (nI 0) dX1_node_58 (by decide) ?_
          refine ja_istore_n K (lv1 := [(0, .ref (q 0)), (1, .int (nI (t0))), (2, .int (jbI (b))), (3, .int (nI 0))]) dX1_node_59 (by decide) rfl rfl ?_
          have L60 : ∀ (x : Nat) (pa : Nat → Int32), (x ≤ 60 ∧ (∀ k, (k < 60 * jN S ∨ 60 * jN S + 60 ≤ k) → pa k = jmU u k) ∧ ∀ y, y < x → pa (60 * jN S + y) = nI 0) → jaW p l e R s m args below meth c 0 0 Q D vwCl A 4 (jmc q cI cZ (jmsU (jmsM (jmsT (jmsF (u) (nI 0)) (upd (jmT u) (jN S) (nI t0))) (upd (jmM u) (jN S) (jbI b))) pa)) [(0, .ref (q 0)), (1, .int (nI (t0))), (2, .int (jbI (b))), (3, .int (nI (x)))] 60 [] := by
            refine jl_2 (fun (x : Nat) (pa : Nat → Int32) => 60 - x) (fun (x : Nat) (pa : Nat → Int32) => x ≤ 60 ∧ (∀ k, (k < 60 * jN S ∨ 60 * jN S + 60 ≤ k) → pa k = jmU u k) ∧ ∀ y, y < x → pa (60 * jN S + y) = nI 0) _ ?_
            intro x pa hI60 IH60
            refine ja_iload_n K 3 dX1_node_60 rfl ?_
            refine ja_bipush K (nI 60) dX1_node_61 (by decide) ?_
            refine ja_icmp_ge K (tgt := 87) (60 ≤ x) dX1_node_63 (by decide) (nI_leI (by omega) (by omega)) (fun h63 => ?_) (fun h63 => ?_)
            · refine ja_iconst K (nI 0) dX1_node_87 (by decide) ?_
              refine ja_istore_n K (lv1 := [(0, .ref (q 0)), (1, .int (nI (t0))), (2, .int (jbI (b))), (3, .int (nI 0))]) dX1_node_88 (by decide) rfl rfl ?_
              have L89 : ∀ (i : Nat) (mu : Nat → Int32), (i ≤ 8 ∧ (∀ i1 c1, i1 < 8 → c1 < jN S → mu (14 * i1 + c1) = jmL u (14 * i1 + c1)) ∧ ∀ i1, i1 < i → mu (14 * i1 + jN S) = nI 0) → jaW p l e R s m args below meth c 0 0 Q D vwCl A 4 (jmc q cI cZ (jmsL (jmsU (jmsM (jmsT (jmsF (u) (nI 0)) (upd (jmT u) (jN S) (nI t0))) (upd (jmM u) (jN S) (jbI b))) pa) mu)) [(0, .ref (q 0)), (1, .int (nI (t0))), (2, .int (jbI (b))), (3, .int (nI (i)))] 89 [] := by
                refine jl_2 (fun (i : Nat) (mu : Nat → Int32) => 8 - i) (fun (i : Nat) (mu : Nat → Int32) => i ≤ 8 ∧ (∀ i1 c1, i1 < 8 → c1 < jN S → mu (14 * i1 + c1) = jmL u (14 * i1 + c1)) ∧ ∀ i1, i1 < i → mu (14 * i1 + jN S) = nI 0) _ ?_
                intro i mu hI89 IH89
                refine ja_iload_n K 3 dX1_node_89 rfl ?_
                refine ja_bipush K (nI 8) dX1_node_90 (by decide) ?_
                refine ja_icmp_ge K (tgt := 116) (8 ≤ i) dX1_node_92 (by decide) (nI_leI (by omega) (by omega)) (fun h92 => ?_) (fun h92 => ?_)
                · refine ja_aload_n K 0 dX1_node_116 rfl ?_
                  refine ja_dup K dX1_node_117 rfl ?_
                  refine ja_get K hu9 0 rfl rfl 1 (by decide) (List.mem_cons_of_mem _ kfX1_42) rfl (congrArg (fun z9 => some (Value.int z9)) rN) dX1_node_118 ?_
                  refine ja_iconst K (nI 1) dX1_node_121 (by decide) ?_
                  refine ja_iadd K (nI (((jN S) + 1))) dX1_node_122 (nI_add _ _) ?_
                  refine ja_put K (ws1 := jmc q cI cZ (jmsN (jmsL (jmsU (jmsM (jmsT (jmsF (u) (nI 0)) (upd (jmT u) (jN S) (nI t0))) (upd (jmM u) (jN S) (jbI b))) pa) mu) (nI (((jN S) + 1))))) hu9 0 rfl rfl 1 (by decide) (List.mem_cons_of_mem _ kfX1_42) rfl tyX1 tyX1_ok nmX1 rfl rfl rfl rfl (Nat.le_of_ble_eq_true rfl) dX1_node_123 rfl ?_
                  refine ja_aload_n K 0 dX1_node_126 rfl ?_
                  refine ja_get K hu9 0 rfl rfl 1 (by decide) (List.mem_cons_of_mem _ kfX1_42) rfl rfl dX1_node_127 ?_
                  refine ja_iconst K (nI 1) dX1_node_130 (by decide) ?_
                  refine ja_isub K (nI ((((jN S) + 1) - 1))) dX1_node_131 (pk_sub (by omega)) ?_
                  exact ja_iret K (jmsN (jmsL (jmsU (jmsM (jmsT (jmsF (u) (nI 0)) (upd (jmT u) (jN S) (nI t0))) (upd (jmM u) (jN S) (jbI b))) pa) mu) (nI (((jN S) + 1)))) rfl (Nat.zero_le _) (Nat.zero_le _) dX1_node_132 hQ9 rfl ⟨by rw [show jcN S _ = 0 by simp [jcN, f9, h22, h33, h63, h92]]; rfl, fun _ => rfl, fun _ => jmR1_addN hW9 hS9 ht0 (by omega) hI60.2.1 (fun y h => hI60.2.2 y (by omega)) hI89.2.1 (fun i1 h => hI89.2.2 i1 (by omega)) _, fun h => absurd (show jcN S _ = 0 by simp [jcN, f9, h22, h33, h63, h92]) h⟩
                · refine ja_aload_n K 0 dX1_node_95 rfl ?_
                  refine ja_get K hu9 0 rfl rfl 8 (by decide) (List.mem_cons_of_mem _ kfX1_26) rfl rfl dX1_node_96 ?_
                  refine ja_bipush K (nI 14) dX1_node_99 (by decide) ?_
                  refine ja_iload_n K 3 dX1_node_101 rfl ?_
                  refine ja_imul K (nI ((14 * i))) dX1_node_102 (pk_mul _ _) ?_
                  refine ja_aload_n K 0 dX1_node_103 rfl ?_
                  refine ja_get K hu9 0 rfl rfl 1 (by decide) (List.mem_cons_of_mem _ kfX1_42) rfl (congrArg (fun z9 => some (Value.int z9)) rN) dX1_node_104 ?_
                  refine ja_iadd K (nI (((14 * i) + (jN S)))) dX1_node_107 (nI_add _ _) ?_
                  refine ja_iconst K (nI 0) dX1_node_108 (by decide) ?_
                  refine ja_iast K (ws1 := jmc q cI cZ (jmsL (jmsU (jmsM (jmsT (jmsF (u) (nI 0)) (upd (jmT u) (jN S) (nI t0))) (upd (jmM u) (jN S) (jbI b))) pa) (upd mu (14 * i + jN S) (nI 0)))) 6 0 rfl rfl (14 * i + jN S) rfl (by omega) (by decide) dX1_node_109 rfl ?_
                  refine ja_iinc K (lv1 := [(0, .ref (q 0)), (1, .int (nI (t0))), (2, .int (jbI (b))), (3, .int (nI ((i + 1))))]) 3 (nI ((i + 1))) dX1_node_110 rfl (ja_inc _) (by decide) rfl rfl ?_
                  refine ja_goto K (tgt := 89) dX1_node_113 (by decide) ?_
                  exact IH89 (i + 1) (upd mu (14 * i + jN S) (nI 0)) ⟨by omega, fun i1 c1 g1 g2 => by rw [pk_un (by omega)]; exact hI89.2.1 i1 c1 g1 g2, fun i1 h => by
                    by_cases q1 : i1 = i
                    · rw [q1]; exact pk_us
                    · rw [pk_un (by omega)]; exact hI89.2.2 i1 (by omega)⟩ (by omega)
              exact L89 0 (jmL u) ⟨Nat.zero_le _, fun i1 c1 _ _ => rfl, fun y h => absurd h (Nat.not_lt_zero _)⟩
            · refine ja_aload_n K 0 dX1_node_66 rfl ?_
              refine ja_get K hu9 0 rfl rfl 4 (by decide) (List.mem_cons_of_mem _ kfX1_17) rfl rfl dX1_node_67 ?_
              refine ja_bipush K (nI 60) dX1_node_70 (by decide) ?_
              refine ja_aload_n K 0 dX1_node_72 rfl ?_
              refine ja_get K hu9 0 rfl rfl 1 (by decide) (List.mem_cons_of_mem _ kfX1_42) rfl (congrArg (fun z9 => some (Value.int z9)) rN) dX1_node_73 ?_
              refine ja_imul K (nI ((60 * (jN S)))) dX1_node_76 (pk_mul _ _) ?_
              refine ja_iload_n K 3 dX1_node_77 rfl ?_
              refine ja_iadd K (nI (((60 * (jN S)) + x))) dX1_node_78 (nI_add _ _) ?_
              refine ja_iconst K (nI 0) dX1_node_79 (by decide) ?_
              refine ja_iast K (ws1 := jmc q cI cZ (jmsU (jmsM (jmsT (jmsF (u) (nI 0)) (upd (jmT u) (jN S) (nI t0))) (upd (jmM u) (jN S) (jbI b))) (upd pa (60 * jN S + x) (nI 0)))) 3 0 rfl rfl (60 * jN S + x) rfl (by omega) (by decide) dX1_node_80 rfl ?_
              refine ja_iinc K (lv1 := [(0, .ref (q 0)), (1, .int (nI (t0))), (2, .int (jbI (b))), (3, .int (nI ((x + 1))))]) 3 (nI ((x + 1))) dX1_node_81 rfl (ja_inc _) (by decide) rfl rfl ?_
              refine ja_goto K (tgt := 60) dX1_node_84 (by decide) ?_
              exact IH60 (x + 1) (upd pa (60 * jN S + x) (nI 0)) ⟨by omega, fun k h => by rw [pk_un (by omega)]; exact hI60.2.1 k h, fun y h => by
                by_cases q1 : y = x
                · rw [q1]; exact pk_us
                · rw [pk_un (by omega)]; exact hI60.2.2 y (by omega)⟩ (by omega)
          exact L60 0 (jmU u) ⟨Nat.zero_le _, fun k _ => rfl, fun y h => absurd h (Nat.not_lt_zero _)⟩
        · exact absurd (by decide) h33
      · replace h22 := Classical.not_not.mp h22
        refine ja_iconst K (nI 2) dX1_node_25 (by decide) ?_
        refine ja_goto K (tgt := 30) dX1_node_26 (by decide) ?_
        refine ja_callVI K (q0 := 0) (qc := (RX1, TX1, 16)) (st := []) [.int (nI 2)] (jd_refused l D q cI cZ (u) (2) (by omega)) (cwV 1 K.1.2.2.2.2 (gX1_X1_refused _) rfl rfl rfl (by decide +kernel) (by rw [hR9]; exact ⟨Nat.le_of_ble_eq_true rfl, Nat.le_of_ble_eq_true rfl⟩)) rfl rfl rfl rfl rfl (Nat.le_of_ble_eq_true rfl) dX1_node_30 (by rw [hR9]; exact ⟨Nat.le_of_ble_eq_true rfl, Nat.le_of_ble_eq_true rfl⟩) (fun r9 u9 h9 => ?_)
        obtain ⟨rfl, rfl⟩ := h9
        refine ja_if_eq K (tgt := 38) (decide (0 < 2) = false) dX1_node_33 (by decide) (jbI_ne _) (fun h33 => ?_) (fun h33 => ?_)
        · exact absurd h33 (by decide)
        · refine ja_iconst K (nI 0) dX1_node_36 (by decide) ?_
          exact ja_iret K (jmsF (u) (nI 2)) rfl (Nat.zero_le _) (Nat.zero_le _) dX1_node_37 hQ9 rfl ⟨by rw [show jcN S _ = 2 by simp [jcN, f9, h22, h33]]; rfl, fun h => (by rw [show jcN S _ = 2 by simp [jcN, f9, h22, h33]] at h; cases h), fun h => (by rw [show jcN S _ = 2 by simp [jcN, f9, h22, h33]] at h; cases h), fun _ => hS9⟩
    · have f9 : jin z 1001 = false := jin_ff3 (by decide) h9
      refine ja_iconst K (nI 1) dX1_node_12 (by decide) ?_
      refine ja_goto K (tgt := 30) dX1_node_13 (by decide) ?_
      refine ja_callVI K (q0 := 0) (qc := (RX1, TX1, 16)) (st := []) [.int (nI 1)] (jd_refused l D q cI cZ (u) (1) (by omega)) (cwV 1 K.1.2.2.2.2 (gX1_X1_refused _) rfl rfl rfl (by decide +kernel) (by rw [hR9]; exact ⟨Nat.le_of_ble_eq_true rfl, Nat.le_of_ble_eq_true rfl⟩)) rfl rfl rfl rfl rfl (Nat.le_of_ble_eq_true rfl) dX1_node_30 (by rw [hR9]; exact ⟨Nat.le_of_ble_eq_true rfl, Nat.le_of_ble_eq_true rfl⟩) (fun r9 u9 h9 => ?_)
      obtain ⟨rfl, rfl⟩ := h9
      refine ja_if_eq K (tgt := 38) (decide (0 < 1) = false) dX1_node_33 (by decide) (jbI_ne _) (fun h33 => ?_) (fun h33 => ?_)
      · exact absurd h33 (by decide)
      · refine ja_iconst K (nI 0) dX1_node_36 (by decide) ?_
        exact ja_iret K (jmsF (u) (nI 1)) rfl (Nat.zero_le _) (Nat.zero_le _) dX1_node_37 hQ9 rfl ⟨by rw [show jcN S _ = 1 by simp [jcN, h2, h9, f9, h33]]; rfl, fun h => (by rw [show jcN S _ = 1 by simp [jcN, h2, h9, f9, h33]] at h; cases h), fun h => (by rw [show jcN S _ = 1 by simp [jcN, h2, h9, f9, h33]] at h; cases h), fun _ => hS9⟩
