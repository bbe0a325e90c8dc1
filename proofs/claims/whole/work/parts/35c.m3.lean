set_option maxRecDepth 100000 in
set_option maxHeartbeats 4000000 in
theorem jd_part (l : Launch) (D : va_G) (q : Nat → Nat) (cI cZ : ClassId) (S : JS) (u : JM) (hW9 : jWf S) (hS9 : jmR1 S u) (a b c9 : Int32) : jkI l yX1_part wsX1_part ({ frames := 1, cells := 0, slots := 0, locals := 22 }) D vwCl (jxt cI cZ) (jmc q cI cZ) [.ref (q 0), .int a, .int b, .int c9] (jmc q cI cZ u) (fun r u1 => jmF u1 = nI (jcP S a b c9) ∧ ((jcP S a b c9) = 0 → nI (jaU S (jv a) (jv b) (jv c9) none) = r) ∧ ((jcP S a b c9) = 0 → jmR1 (jsetU S (jv a) (jv b) (jv c9) none) u1) ∧ (¬ (jcP S a b c9) = 0 → jmR1 S u1)) := by
  refine jkI_of (cc := cX1_part) (maxL := 6) (ret := (some .int)) (by decide) rfl (Nat.le_of_ble_eq_true rfl) ?_
  intro p e R s m args below meth c Q A K hn9 hR9 hQ9
  obtain ⟨rN, rT, rM, rU, rK, rP, rA, rL, rB⟩ := id hS9
  obtain ⟨wn, wt, wu, wk, wp, wl, wb⟩ := id hW9
  have hu9 : ∀ w ∈ u_ws RX1 TX1 16, w ∈ wsX1_part := fun w h => List.mem_cons_of_mem _ (ku_X1 w h)
  show jaW p l e R s m args below meth c 0 0 Q D vwCl A 6 (jmc q cI cZ u) [(0, .ref (q 0)), (1, .int (a)), (2, .int (b)), (3, .int (c9))] 0 []
  refine ja_aload_n K 0 dX1_part_0 rfl ?_
  refine ja_iload_n K 1 dX1_part_1 rfl ?_
  refine ja_iload_n K 2 dX1_part_2 rfl ?_
  refine ja_callSI K (st := [.ref (q 0)]) [.int (a), .int (b)] (jd_isRun l D q cI cZ (u) (a) (b)) (va_cwS 2 K.1.2.2.2.2 (gX1_X1_isRun _) rfl rfl rfl (by decide +kernel) (by rw [hR9]; exact ⟨Nat.le_of_ble_eq_true rfl, Nat.le_of_ble_eq_true rfl⟩)) rfl rfl rfl (Nat.le_of_ble_eq_true rfl) dX1_part_3 (by rw [hR9]; exact ⟨Nat.le_of_ble_eq_true rfl, Nat.le_of_ble_eq_true rfl⟩) (fun r9 u9 h9 => ?_)
  obtain ⟨rfl, rfl⟩ := h9
  refine ja_if_eq K (tgt := 17) (jrun (a) (b) = false) dX1_part_6 (by decide) (jbI_ne _) (fun h6 => ?_) (fun h6 => ?_)
  · refine ja_iconst K (nI 1) dX1_part_17 (by decide) ?_
    refine ja_goto K (tgt := 22) dX1_part_18 (by decide) ?_
    refine ja_callVI K (q0 := 0) (qc := (RX1, TX1, 16)) (st := []) [.int (nI 1)] (jd_refused l D q cI cZ (u) (1) (by omega)) (cwV 1 K.1.2.2.2.2 (gX1_X1_refused _) rfl rfl rfl (by decide +kernel) (by rw [hR9]; exact ⟨Nat.le_of_ble_eq_true rfl, Nat.le_of_ble_eq_true rfl⟩)) rfl rfl rfl rfl rfl (Nat.le_of_ble_eq_true rfl) dX1_part_22 (by rw [hR9]; exact ⟨Nat.le_of_ble_eq_true rfl, Nat.le_of_ble_eq_true rfl⟩) (fun r9 u9 h9 => ?_)
    obtain ⟨rfl, rfl⟩ := h9
    refine ja_if_eq K (tgt := 30) (decide (0 < 1) = false) dX1_part_25 (by decide) (jbI_ne _) (fun h25 => ?_) (fun h25 => ?_)
    · exact absurd h25 (by decide)
    · refine ja_iconst K (nI 0) dX1_part_28 (by decide) ?_
      exact ja_iret K (jmsF (u) (nI 1)) rfl (Nat.zero_le _) (Nat.zero_le _) dX1_part_29 hQ9 rfl ⟨by rw [show jcP S _ _ _ = 1 by simp [jcP, h6, h25]]; rfl, fun h => (by rw [show jcP S _ _ _ = 1 by simp [jcP, h6, h25]] at h; cases h), fun h => (by rw [show jcP S _ _ _ = 1 by simp [jcP, h6, h25]] at h; cases h), fun _ => hS9⟩
  · refine ja_aload_n K 0 dX1_part_9 rfl ?_
    refine ja_iload_n K 3 dX1_part_10 rfl ?_
    refine ja_callVI K (q0 := 0) (qc := (RX1, TX1, 16)) (st := [.ref (q 0)]) [.int (c9)] (jd_isNode l D q cI cZ S (u) hW9 hS9 (c9)) (cwV 1 K.1.2.2.2.2 (gX1_X1_isNode _) rfl rfl rfl (by decide +kernel) (by rw [hR9]; exact ⟨Nat.le_of_ble_eq_true rfl, Nat.le_of_ble_eq_true rfl⟩)) rfl rfl rfl rfl rfl (Nat.le_of_ble_eq_true rfl) dX1_part_11 (by rw [hR9]; exact ⟨Nat.le_of_ble_eq_true rfl, Nat.le_of_ble_eq_true rfl⟩) (fun r9 u9 h9 => ?_)
    obtain ⟨rfl, rfl⟩ := h9
    refine ja_if_ne K (tgt := 21) (jin (c9) (jN S) = true) dX1_part_14 (by decide) (jbI_nz _) (fun h14 => ?_) (fun h14 => ?_)
    · obtain ⟨i, j, hij, hj, rfl, rfl⟩ := jrun_of (by simpa using h6)
      have vi := jv_nI (n := i) (by omega)
      have vj := jv_nI (n := j) (by omega)
      obtain ⟨c0, hc0, rfl⟩ := jin_of (n := jN S) (by simpa using h14) (by omega)
      have vc0 := jv_nI (n := c0) (by omega)
      refine ja_iconst K (nI 0) dX1_part_21 (by decide) ?_
      refine ja_callVI K (q0 := 0) (qc := (RX1, TX1, 16)) (st := []) [.int (nI 0)] (jd_refused l D q cI cZ (u) (0) (by omega)) (cwV 1 K.1.2.2.2.2 (gX1_X1_refused _) rfl rfl rfl (by decide +kernel) (by rw [hR9]; exact ⟨Nat.le_of_ble_eq_true rfl, Nat.le_of_ble_eq_true rfl⟩)) rfl rfl rfl rfl rfl (Nat.le_of_ble_eq_true rfl) dX1_part_22 (by rw [hR9]; exact ⟨Nat.le_of_ble_eq_true rfl, Nat.le_of_ble_eq_true rfl⟩) (fun r9 u9 h9 => ?_)
      obtain ⟨rfl, rfl⟩ := h9
      refine ja_if_eq K (tgt := 30) (decide (0 < 0) = false) dX1_part_25 (by decide) (jbI_ne _) (fun h25 => ?_) (fun h25 => ?_)
      · refine ja_iconst K (nI 0) dX1_part_30 (by decide) ?_
        refine ja_istore K (lv1 := [(0, .ref (q 0)), (1, .int (nI (i))), (2, .int (nI (j))), (3, .int (nI (c0))), (4, .int (nI 0))]) dX1_part_31 (by decide) rfl rfl ?_
        refine ja_iload_n K 1 dX1_part_33 rfl ?_
        refine ja_istore K (lv1 := [(0, .ref (q 0)), (1, .int (nI (i))), (2, .int (nI (j))), (3, .int (nI (c0))), (4, .int (nI 0)), (5, .int (nI (i)))]) dX1_part_34 (by decide) rfl rfl ?_
        have L36 : ∀ (x : Nat) (pa : Nat → Int32), ((i ≤ x ∧ x ≤ j) ∧ (∀ x1 c1, x1 < 60 → c1 < jN S → pa (60 * c1 + x1) = nI (joN (if c1 = c0 ∧ i ≤ x1 ∧ x1 < x then none else jU S x1 c1)))) → jaW p l e R s m args below meth c 0 0 Q D vwCl A 6 (jmc q cI cZ (jmsU (jmsF (u) (nI 0)) pa)) [(0, .ref (q 0)), (1, .int (nI (i))), (2, .int (nI (j))), (3, .int (nI (c0))), (4, .int (nI ((jct (fun d => jU S (i + d) c0 != none) (x - i))))), (5, .int (nI (x)))] 36 [] := by
          refine jl_2 (fun (x : Nat) (pa : Nat → Int32) => j - x) (fun (x : Nat) (pa : Nat → Int32) => (i ≤ x ∧ x ≤ j) ∧ (∀ x1 c1, x1 < 60 → c1 < jN S → pa (60 * c1 + x1) = nI (joN (if c1 = c0 ∧ i ≤ x1 ∧ x1 < x then none else jU S x1 c1)))) _ ?_
          intro x pa hI36 IH36
          refine ja_iload K 5 dX1_part_36 rfl ?_
          refine ja_iload_n K 2 dX1_part_38 rfl ?_
          refine ja_icmp_ge K (tgt := 82) (j ≤ x) dX1_part_39 (by decide) (nI_leI (by omega) (by omega)) (fun h39 => ?_) (fun h39 => ?_)
          · refine ja_iload K 4 dX1_part_82 rfl ?_
            exact ja_iret K (jmsU (jmsF (u) (nI 0)) pa) rfl (Nat.zero_le _) (Nat.zero_le _) dX1_part_84 hQ9 rfl ⟨by rw [show jcP S _ _ _ = 0 by simp [jcP, h6, h14, vi, vj, vc0, h25, h39]]; rfl, fun _ => by rw [vi, vj, vc0, jaU, show j - i = x - i by omega], fun _ => by rw [vi, vj, vc0]; exact jmR1_setU hS9 (fun x1 c1 g1 g2 => by rw [show j = x by omega]; exact hI36.2 x1 c1 g1 g2) _, fun h => absurd (show jcP S _ _ _ = 0 by simp [jcP, h6, h14, vi, vj, vc0, h25, h39]) h⟩
          · refine ja_aload_n K 0 dX1_part_42 rfl ?_
            refine ja_iload_n K 3 dX1_part_43 rfl ?_
            refine ja_iload K 5 dX1_part_44 rfl ?_
            refine ja_callVI K (q0 := 0) (qc := (RX1, TX1, 16)) (st := []) [.int (nI (c0)), .int (nI (x))] (jd_up l D q cI cZ (jmsU (jmsF (u) (nI 0)) pa) (c0) (x) (by omega) (by omega) (jU S (x) (c0)) (by have h9 := hI36.2 x c0 (by omega) hc0; rw [if_neg (by omega)] at h9; exact h9)) (cwV 2 K.1.2.2.2.2 (gX1_X1_up _) rfl rfl rfl (by decide +kernel) (by rw [hR9]; exact ⟨Nat.le_of_ble_eq_true rfl, Nat.le_of_ble_eq_true rfl⟩)) rfl rfl rfl rfl rfl (Nat.le_of_ble_eq_true rfl) dX1_part_46 (by rw [hR9]; exact ⟨Nat.le_of_ble_eq_true rfl, Nat.le_of_ble_eq_true rfl⟩) (fun r9 u9 h9 => ?_)
            obtain ⟨rfl, rfl⟩ := h9
            refine ja_if_lt K (tgt := 59) (jU S (x) (c0) = none) dX1_part_49 (by decide) (jeI_lt0 (fun p9 h9 => by have := (wu _ _ _ h9).2.1; omega)) (fun h49 => ?_) (fun h49 => ?_)
            · try rw [h49]
              refine ja_iload K 4 dX1_part_59 rfl ?_
              refine ja_istore K (lv1 := [(0, .ref (q 0)), (1, .int (nI (i))), (2, .int (nI (j))), (3, .int (nI (c0))), (4, .int (nI ((jct (fun d => jU S (i + d) c0 != none) (x - i))))), (5, .int (nI (x)))]) dX1_part_61 (by decide) rfl rfl ?_
              refine ja_aload_n K 0 dX1_part_63 rfl ?_
              refine ja_get K hu9 0 rfl rfl 4 (by decide) (List.mem_cons_of_mem _ kfX1_17) rfl rfl dX1_part_64 ?_
              refine ja_bipush K (nI 60) dX1_part_67 (by decide) ?_
              refine ja_iload_n K 3 dX1_part_69 rfl ?_
              refine ja_imul K (nI ((60 * c0))) dX1_part_70 (pk_mul _ _) ?_
              refine ja_iload K 5 dX1_part_71 rfl ?_
              refine ja_iadd K (nI (((60 * c0) + x))) dX1_part_73 (nI_add _ _) ?_
              refine ja_iconst K (nI 0) dX1_part_74 (by decide) ?_
              refine ja_iast K (ws1 := jmc q cI cZ (jmsU (jmsF (u) (nI 0)) (upd pa (60 * c0 + x) (nI 0)))) 3 0 rfl rfl (60 * c0 + x) rfl (by omega) (by decide) dX1_part_75 rfl ?_
              refine ja_iinc K (lv1 := [(0, .ref (q 0)), (1, .int (nI (i))), (2, .int (nI (j))), (3, .int (nI (c0))), (4, .int (nI ((jct (fun d => jU S (i + d) c0 != none) (x - i))))), (5, .int (nI ((x + 1))))]) 5 (nI ((x + 1))) dX1_part_76 rfl (ja_inc _) (by decide) rfl rfl ?_
              refine ja_goto K (tgt := 36) dX1_part_79 (by decide) ?_
              have e90 : jct (fun d => jU S (i + d) c0 != none) (x + 1 - i) = (jct (fun d => jU S (i + d) c0 != none) (x - i)) := by rw [show x + 1 - i = (x - i) + 1 by omega]; simp [jct, show i + (x - i) = x by omega, h49]
              have k9 := IH36 (x + 1) (upd pa (60 * c0 + x) (nI 0)) ⟨by omega, fun x1 c1 g1 g2 => by
                by_cases q1 : c1 = c0 ∧ x1 = x
                · obtain ⟨rfl, rfl⟩ := q1
                  rw [if_pos (by omega)]; exact pk_us
                · rw [pk_un (by omega), hI36.2 x1 c1 g1 g2]
                  congr 2
                  by_cases q2 : c1 = c0 ∧ i ≤ x1 ∧ x1 < x
                  · rw [if_pos q2, if_pos (by omega)]
                  · rw [if_neg q2, if_neg (by omega)]⟩ (by omega)
              rw [e90] at k9
              exact k9
            · obtain ⟨y49, ey49⟩ := Option.ne_none_iff_exists'.mp h49
              try rw [ey49]
              have by49 := wu _ _ _ ey49
              refine ja_iload K 4 dX1_part_52 rfl ?_
              refine ja_iconst K (nI 1) dX1_part_54 (by decide) ?_
              refine ja_iadd K (nI (((jct (fun d => jU S (i + d) c0 != none) (x - i)) + 1))) dX1_part_55 (nI_add _ _) ?_
              refine ja_goto K (tgt := 61) dX1_part_56 (by decide) ?_
              refine ja_istore K (lv1 := [(0, .ref (q 0)), (1, .int (nI (i))), (2, .int (nI (j))), (3, .int (nI (c0))), (4, .int (nI (((jct (fun d => jU S (i + d) c0 != none) (x - i)) + 1)))), (5, .int (nI (x)))]) dX1_part_61 (by decide) rfl rfl ?_
              refine ja_aload_n K 0 dX1_part_63 rfl ?_
              refine ja_get K hu9 0 rfl rfl 4 (by decide) (List.mem_cons_of_mem _ kfX1_17) rfl rfl dX1_part_64 ?_
              refine ja_bipush K (nI 60) dX1_part_67 (by decide) ?_
              refine ja_iload_n K 3 dX1_part_69 rfl ?_
              refine ja_imul K (nI ((60 * c0))) dX1_part_70 (pk_mul _ _) ?_
              refine ja_iload K 5 dX1_part_71 rfl ?_
              refine ja_iadd K (nI (((60 * c0) + x))) dX1_part_73 (nI_add _ _) ?_
              refine ja_iconst K (nI 0) dX1_part_74 (by decide) ?_
              refine ja_iast K (ws1 := jmc q cI cZ (jmsU (jmsF (u) (nI 0)) (upd pa (60 * c0 + x) (nI 0)))) 3 0 rfl rfl (60 * c0 + x) rfl (by omega) (by decide) dX1_part_75 rfl ?_
              refine ja_iinc K (lv1 := [(0, .ref (q 0)), (1, .int (nI (i))), (2, .int (nI (j))), (3, .int (nI (c0))), (4, .int (nI (((jct (fun d => jU S (i + d) c0 != none) (x - i)) + 1)))), (5, .int (nI ((x + 1))))]) 5 (nI ((x + 1))) dX1_part_76 rfl (ja_inc _) (by decide) rfl rfl ?_
              refine ja_goto K (tgt := 36) dX1_part_79 (by decide) ?_
              have e90 : jct (fun d => jU S (i + d) c0 != none) (x + 1 - i) = ((jct (fun d => jU S (i + d) c0 != none) (x - i)) + 1) := by rw [show x + 1 - i = (x - i) + 1 by omega]; simp [jct, show i + (x - i) = x by omega, h49]
              have k9 := IH36 (x + 1) (upd pa (60 * c0 + x) (nI 0)) ⟨by omega, fun x1 c1 g1 g2 => by
                by_cases q1 : c1 = c0 ∧ x1 = x
                · obtain ⟨rfl, rfl⟩ := q1
                  rw [if_pos (by omega)]; exact pk_us
                · rw [pk_un (by omega), hI36.2 x1 c1 g1 g2]
                  congr 2
                  by_cases q2 : c1 = c0 ∧ i ≤ x1 ∧ x1 < x
                  · rw [if_pos q2, if_pos (by omega)]
                  · rw [if_neg q2, if_neg (by omega)]⟩ (by omega)
              rw [e90] at k9
              exact k9
        have k9 := L36 i (jmU u) ⟨by omega, fun x1 c1 g1 g2 => by rw [if_neg (by omega)]; exact rU x1 c1 g1 g2⟩
        rw [Nat.sub_self] at k9
        exact k9
      · exact absurd (by decide) h25
    · refine ja_iconst K (nI 1) dX1_part_17 (by decide) ?_
      refine ja_goto K (tgt := 22) dX1_part_18 (by decide) ?_
      refine ja_callVI K (q0 := 0) (qc := (RX1, TX1, 16)) (st := []) [.int (nI 1)] (jd_refused l D q cI cZ (u) (1) (by omega)) (cwV 1 K.1.2.2.2.2 (gX1_X1_refused _) rfl rfl rfl (by decide +kernel) (by rw [hR9]; exact ⟨Nat.le_of_ble_eq_true rfl, Nat.le_of_ble_eq_true rfl⟩)) rfl rfl rfl rfl rfl (Nat.le_of_ble_eq_true rfl) dX1_part_22 (by rw [hR9]; exact ⟨Nat.le_of_ble_eq_true rfl, Nat.le_of_ble_eq_true rfl⟩) (fun r9 u9 h9 => ?_)
      obtain ⟨rfl, rfl⟩ := h9
      refine ja_if_eq K (tgt := 30) (decide (0 < 1) = false) dX1_part_25 (by decide) (jbI_ne _) (fun h25 => ?_) (fun h25 => ?_)
      · exact absurd h25 (by decide)
      · refine ja_iconst K (nI 0) dX1_part_28 (by decide) ?_
        exact ja_iret K (jmsF (u) (nI 1)) rfl (Nat.zero_le _) (Nat.zero_le _) dX1_part_29 hQ9 rfl ⟨by rw [show jcP S _ _ _ = 1 by simp [jcP, h6, h14, h25]]; rfl, fun h => (by rw [show jcP S _ _ _ = 1 by simp [jcP, h6, h14, h25]] at h; cases h), fun h => (by rw [show jcP S _ _ _ = 1 by simp [jcP, h6, h14, h25]] at h; cases h), fun _ => hS9⟩
