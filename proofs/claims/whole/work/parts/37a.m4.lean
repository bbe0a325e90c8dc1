set_option maxRecDepth 100000 in
set_option maxHeartbeats 4000000 in
theorem jd_join (l : Launch) (D : va_G) (q : Nat → Nat) (cI cZ : ClassId) (S : JS) (u : JM) (hW9 : jWf S) (hS9 : jmR1 S u) (a b p9 c9 : Int32) : jkI l yX1_join wsX1_join ({ frames := 1, cells := 0, slots := 0, locals := 22 }) D vwCl (jxt cI cZ) (jmc q cI cZ) [.ref (q 0), .int a, .int b, .int p9, .int c9] (jmc q cI cZ u) (fun r u1 => jmF u1 = nI (jcJ S a b p9 c9) ∧ ((jcJ S a b p9 c9) = 0 → nI (jaU S (jv a) (jv b) (jv c9) (some (jv p9))) = r) ∧ ((jcJ S a b p9 c9) = 0 → jmR1 (jsetU S (jv a) (jv b) (jv c9) (some (jv p9))) u1) ∧ (¬ (jcJ S a b p9 c9) = 0 → jmR1 S u1)) := by
  refine jkI_of (cc := cX1_join) (maxL := 8) (ret := (some .int)) (by decide) rfl (Nat.le_of_ble_eq_true rfl) ?_
  intro p e R s m args below meth c Q A K hn9 hR9 hQ9
  obtain ⟨rN, rT, rM, rU, rK, rP, rA, rL, rB⟩ := id hS9
  obtain ⟨wn, wt, wu, wk, wp, wl, wb⟩ := id hW9
  have hu9 : ∀ w ∈ u_ws RX1 TX1 16, w ∈ wsX1_join := fun w h => List.mem_cons_of_mem _ (ku_X1 w h)
  show jaW p l e R s m args below meth c 0 0 Q D vwCl A 8 (jmc q cI cZ u) [(0, .ref (q 0)), (1, .int (a)), (2, .int (b)), (3, .int (p9)), (4, .int (c9))] 0 []
  refine ja_aload_n K 0 dX1_join_0 rfl ?_
  refine ja_iload_n K 1 dX1_join_1 rfl ?_
  refine ja_iload_n K 2 dX1_join_2 rfl ?_
  refine ja_callSI K (st := [.ref (q 0)]) [.int (a), .int (b)] (jd_isRun l D q cI cZ (u) (a) (b)) (va_cwS 2 K.1.2.2.2.2 (gX1_X1_isRun _) rfl rfl rfl (by decide +kernel) (by rw [hR9]; exact ⟨Nat.le_of_ble_eq_true rfl, Nat.le_of_ble_eq_true rfl⟩)) rfl rfl rfl (Nat.le_of_ble_eq_true rfl) dX1_join_3 (by rw [hR9]; exact ⟨Nat.le_of_ble_eq_true rfl, Nat.le_of_ble_eq_true rfl⟩) (fun r9 u9 h9 => ?_)
  obtain ⟨rfl, rfl⟩ := h9
  refine ja_if_eq K (tgt := 26) (jrun (a) (b) = false) dX1_join_6 (by decide) (jbI_ne _) (fun h6 => ?_) (fun h6 => ?_)
  · refine ja_iconst K (nI 1) dX1_join_26 (by decide) ?_
    refine ja_goto K (tgt := 51) dX1_join_27 (by decide) ?_
    refine ja_callVI K (q0 := 0) (qc := (RX1, TX1, 16)) (st := []) [.int (nI 1)] (jd_refused l D q cI cZ (u) (1) (by omega)) (cwV 1 K.1.2.2.2.2 (gX1_X1_refused _) rfl rfl rfl (by decide +kernel) (by rw [hR9]; exact ⟨Nat.le_of_ble_eq_true rfl, Nat.le_of_ble_eq_true rfl⟩)) rfl rfl rfl rfl rfl (Nat.le_of_ble_eq_true rfl) dX1_join_51 (by rw [hR9]; exact ⟨Nat.le_of_ble_eq_true rfl, Nat.le_of_ble_eq_true rfl⟩) (fun r9 u9 h9 => ?_)
    obtain ⟨rfl, rfl⟩ := h9
    refine ja_if_eq K (tgt := 59) (decide (0 < 1) = false) dX1_join_54 (by decide) (jbI_ne _) (fun h54 => ?_) (fun h54 => ?_)
    · exact absurd h54 (by decide)
    · refine ja_iconst K (nI 0) dX1_join_57 (by decide) ?_
      exact ja_iret K (jmsF (u) (nI 1)) rfl (Nat.zero_le _) (Nat.zero_le _) dX1_join_58 hQ9 rfl ⟨by rw [show jcJ S _ _ _ _ = 1 by simp [jcJ, h6]]; rfl, fun h => (by rw [show jcJ S _ _ _ _ = 1 by simp [jcJ, h6]] at h; cases h), fun h => (by rw [show jcJ S _ _ _ _ = 1 by simp [jcJ, h6]] at h; cases h), fun _ => hS9⟩
  · refine ja_aload_n K 0 dX1_join_9 rfl ?_
    refine ja_iload_n K 3 dX1_join_10 rfl ?_
    refine ja_callVI K (q0 := 0) (qc := (RX1, TX1, 16)) (st := [.ref (q 0)]) [.int (p9)] (jd_isNode l D q cI cZ S (u) hW9 hS9 (p9)) (cwV 1 K.1.2.2.2.2 (gX1_X1_isNode _) rfl rfl rfl (by decide +kernel) (by rw [hR9]; exact ⟨Nat.le_of_ble_eq_true rfl, Nat.le_of_ble_eq_true rfl⟩)) rfl rfl rfl rfl rfl (Nat.le_of_ble_eq_true rfl) dX1_join_11 (by rw [hR9]; exact ⟨Nat.le_of_ble_eq_true rfl, Nat.le_of_ble_eq_true rfl⟩) (fun r9 u9 h9 => ?_)
    obtain ⟨rfl, rfl⟩ := h9
    refine ja_if_eq K (tgt := 26) (jin (p9) (jN S) = false) dX1_join_14 (by decide) (jbI_ne _) (fun h14 => ?_) (fun h14 => ?_)
    · refine ja_iconst K (nI 1) dX1_join_26 (by decide) ?_
      refine ja_goto K (tgt := 51) dX1_join_27 (by decide) ?_
      refine ja_callVI K (q0 := 0) (qc := (RX1, TX1, 16)) (st := []) [.int (nI 1)] (jd_refused l D q cI cZ (u) (1) (by omega)) (cwV 1 K.1.2.2.2.2 (gX1_X1_refused _) rfl rfl rfl (by decide +kernel) (by rw [hR9]; exact ⟨Nat.le_of_ble_eq_true rfl, Nat.le_of_ble_eq_true rfl⟩)) rfl rfl rfl rfl rfl (Nat.le_of_ble_eq_true rfl) dX1_join_51 (by rw [hR9]; exact ⟨Nat.le_of_ble_eq_true rfl, Nat.le_of_ble_eq_true rfl⟩) (fun r9 u9 h9 => ?_)
      obtain ⟨rfl, rfl⟩ := h9
      refine ja_if_eq K (tgt := 59) (decide (0 < 1) = false) dX1_join_54 (by decide) (jbI_ne _) (fun h54 => ?_) (fun h54 => ?_)
      · exact absurd h54 (by decide)
      · refine ja_iconst K (nI 0) dX1_join_57 (by decide) ?_
        exact ja_iret K (jmsF (u) (nI 1)) rfl (Nat.zero_le _) (Nat.zero_le _) dX1_join_58 hQ9 rfl ⟨by rw [show jcJ S _ _ _ _ = 1 by simp [jcJ, h6, h14]]; rfl, fun h => (by rw [show jcJ S _ _ _ _ = 1 by simp [jcJ, h6, h14]] at h; cases h), fun h => (by rw [show jcJ S _ _ _ _ = 1 by simp [jcJ, h6, h14]] at h; cases h), fun _ => hS9⟩
    · refine ja_aload_n K 0 dX1_join_17 rfl ?_
      refine ja_iload K 4 dX1_join_18 rfl ?_
      refine ja_callVI K (q0 := 0) (qc := (RX1, TX1, 16)) (st := [.ref (q 0)]) [.int (c9)] (jd_isNode l D q cI cZ S (u) hW9 hS9 (c9)) (cwV 1 K.1.2.2.2.2 (gX1_X1_isNode _) rfl rfl rfl (by decide +kernel) (by rw [hR9]; exact ⟨Nat.le_of_ble_eq_true rfl, Nat.le_of_ble_eq_true rfl⟩)) rfl rfl rfl rfl rfl (Nat.le_of_ble_eq_true rfl) dX1_join_20 (by rw [hR9]; exact ⟨Nat.le_of_ble_eq_true rfl, Nat.le_of_ble_eq_true rfl⟩) (fun r9 u9 h9 => ?_)
      obtain ⟨rfl, rfl⟩ := h9
      refine ja_if_ne K (tgt := 30) (jin (c9) (jN S) = true) dX1_join_23 (by decide) (jbI_nz _) (fun h23 => ?_) (fun h23 => ?_)
      · obtain ⟨i, j, hij, hj, rfl, rfl⟩ := jrun_of (by simpa using h6)
        have vi := jv_nI (n := i) (by omega)
        have vj := jv_nI (n := j) (by omega)
        obtain ⟨p0, hp0, rfl⟩ := jin_of (n := jN S) (by simpa using h14) (by omega)
        have vp0 := jv_nI (n := p0) (by omega)
        obtain ⟨c0, hc0, rfl⟩ := jin_of (n := jN S) (by simpa using h23) (by omega)
        have vc0 := jv_nI (n := c0) (by omega)
        have tp := wt p0 hp0
        have tc := wt c0 hc0
        refine ja_aload_n K 0 dX1_join_30 rfl ?_
        refine ja_get K hu9 0 rfl rfl 2 (by decide) (List.mem_cons_of_mem _ kfX1_7) rfl rfl dX1_join_31 ?_
        refine ja_iload_n K 3 dX1_join_34 rfl ?_
        refine ja_iald K (v := nI ((jT S (p0)))) 1 0 rfl rfl (p0) rfl (by omega) (by decide) (rT _ (by omega)) dX1_join_35 ?_
        refine ja_aload_n K 0 dX1_join_36 rfl ?_
        refine ja_get K hu9 0 rfl rfl 2 (by decide) (List.mem_cons_of_mem _ kfX1_7) rfl rfl dX1_join_37 ?_
        refine ja_iload K 4 dX1_join_40 rfl ?_
        refine ja_iald K (v := nI ((jT S (c0)))) 1 0 rfl rfl (c0) rfl (by omega) (by decide) (rT _ (by omega)) dX1_join_42 ?_
        refine ja_icmp_gt K (tgt := 50) ((jT S (c0)) < (jT S (p0))) dX1_join_43 (by decide) (nI_ltI (by omega) (by omega)) (fun h43 => ?_) (fun h43 => ?_)
        · refine ja_iconst K (nI 0) dX1_join_50 (by decide) ?_
          refine ja_callVI K (q0 := 0) (qc := (RX1, TX1, 16)) (st := []) [.int (nI 0)] (jd_refused l D q cI cZ (u) (0) (by omega)) (cwV 1 K.1.2.2.2.2 (gX1_X1_refused _) rfl rfl rfl (by decide +kernel) (by rw [hR9]; exact ⟨Nat.le_of_ble_eq_true rfl, Nat.le_of_ble_eq_true rfl⟩)) rfl rfl rfl rfl rfl (Nat.le_of_ble_eq_true rfl) dX1_join_51 (by rw [hR9]; exact ⟨Nat.le_of_ble_eq_true rfl, Nat.le_of_ble_eq_true rfl⟩) (fun r9 u9 h9 => ?_)
          obtain ⟨rfl, rfl⟩ := h9
          refine ja_if_eq K (tgt := 59) (decide (0 < 0) = false) dX1_join_54 (by decide) (jbI_ne _) (fun h54 => ?_) (fun h54 => ?_)
          · refine ja_iconst K (nI 0) dX1_join_59 (by decide) ?_
            refine ja_istore K (lv1 := [(0, .ref (q 0)), (1, .int (nI (i))), (2, .int (nI (j))), (3, .int (nI (p0))), (4, .int (nI (c0))), (5, .int (nI 0))]) dX1_join_60 (by decide) rfl rfl ?_
            refine ja_iload_n K 1 dX1_join_62 rfl ?_
            refine ja_istore K (lv1 := [(0, .ref (q 0)), (1, .int (nI (i))), (2, .int (nI (j))), (3, .int (nI (p0))), (4, .int (nI (c0))), (5, .int (nI 0)), (6, .int (nI (i)))]) dX1_join_63 (by decide) rfl rfl ?_
            have L65 : ∀ (x : Nat) (f : Nat), ((i ≤ x ∧ x ≤ j) ∧ f = (if jany (fun d => jU S (i + d) c0 != none && jU S (i + d) c0 != some p0) (x - i) = true then 3 else 0)) → jaW p l e R s m args below meth c 0 0 Q D vwCl A 8 (jmc q cI cZ (jmsF (u) (nI f))) [(0, .ref (q 0)), (1, .int (nI (i))), (2, .int (nI (j))), (3, .int (nI (p0))), (4, .int (nI (c0))), (5, .int (nI ((jct (fun d => jU S (i + d) c0 == none) (x - i))))), (6, .int (nI (x)))] 65 [] := by
              refine jl_2 (fun (x : Nat) (f : Nat) => j - x) (fun (x : Nat) (f : Nat) => (i ≤ x ∧ x ≤ j) ∧ f = (if jany (fun d => jU S (i + d) c0 != none && jU S (i + d) c0 != some p0) (x - i) = true then 3 else 0)) _ ?_
              intro x f hI65 IH65
              have bf : f ≤ 3 := by rw [hI65.2]; split <;> omega
              refine ja_iload K 6 dX1_join_65 rfl ?_
              refine ja_iload_n K 2 dX1_join_67 rfl ?_
              refine ja_icmp_ge K (tgt := 126) (j ≤ x) dX1_join_68 (by decide) (nI_leI (by omega) (by omega)) (fun h68 => ?_) (fun h68 => ?_)
              · refine ja_aload_n K 0 dX1_join_126 rfl ?_
                refine ja_get K hu9 0 rfl rfl 0 (by decide) (List.mem_cons_of_mem _ kfX1_38) rfl rfl dX1_join_127 ?_
                refine ja_if_le K (tgt := 135) (f ≤ 0) dX1_join_130 (by decide) (jz_le (by omega)) (fun h130 => ?_) (fun h130 => ?_)
                · obtain rfl : f = 0 := by omega
                  have f130 : jbes S i j p0 c0 = false := by
                    cases q1 : jbes S i j p0 c0 with
                    | false => rfl
                    | true => have h8 := hI65.2; rw [show x - i = j - i by omega, if_pos (show jany (fun d => jU S (i + d) c0 != none && jU S (i + d) c0 != some p0) (j - i) = true from q1)] at h8; cases h8
                  refine ja_iload_n K 1 dX1_join_135 rfl ?_
                  refine ja_istore K (lv1 := [(0, .ref (q 0)), (1, .int (nI (i))), (2, .int (nI (j))), (3, .int (nI (p0))), (4, .int (nI (c0))), (5, .int (nI ((jct (fun d => jU S (i + d) c0 == none) (x - i))))), (6, .int (nI (i)))]) dX1_join_136 (by decide) rfl rfl ?_
                  have L138 : ∀ (x1 : Nat) (pa : Nat → Int32), ((i ≤ x1 ∧ x1 ≤ j) ∧ (∀ x2 c1, x2 < 60 → c1 < jN S → pa (60 * c1 + x2) = nI (joN (if c1 = c0 ∧ i ≤ x2 ∧ x2 < x1 then some p0 else jU S x2 c1)))) → jaW p l e R s m args below meth c 0 0 Q D vwCl A 8 (jmc q cI cZ (jmsU (jmsF (u) (nI 0)) pa)) [(0, .ref (q 0)), (1, .int (nI (i))), (2, .int (nI (j))), (3, .int (nI (p0))), (4, .int (nI (c0))), (5, .int (nI ((jct (fun d => jU S (i + d) c0 == none) (x - i))))), (6, .int (nI (x1)))] 138 [] := by
                    refine jl_2 (fun (x1 : Nat) (pa : Nat → Int32) => j - x1) (fun (x1 : Nat) (pa : Nat → Int32) => (i ≤ x1 ∧ x1 ≤ j) ∧ (∀ x2 c1, x2 < 60 → c1 < jN S → pa (60 * c1 + x2) = nI (joN (if c1 = c0 ∧ i ≤ x2 ∧ x2 < x1 then some p0 else jU S x2 c1)))) _ ?_
                    intro x1 pa hI138 IH138
                    refine ja_iload K 6 dX1_join_138 rfl ?_
                    refine ja_iload_n K 2 dX1_join_140 rfl ?_
                    refine ja_icmp_ge K (tgt := 166) (j ≤ x1) dX1_join_141 (by decide) (nI_leI (by omega) (by omega)) (fun h141 => ?_) (fun h141 => ?_)
                    · refine ja_iload K 5 dX1_join_166 rfl ?_
                      exact ja_iret K (jmsU (jmsF (u) (nI 0)) pa) rfl (Nat.zero_le _) (Nat.zero_le _) dX1_join_168 hQ9 rfl ⟨by rw [show jcJ S _ _ _ _ = 0 by simp [jcJ, h6, h14, h23, vi, vj, vp0, vc0, h43, f130]]; rfl, fun _ => by rw [vi, vj, vp0, vc0, ← jbes_ct f130, show j - i = x - i by omega], fun _ => by rw [vi, vj, vp0, vc0]; exact jmR1_setU hS9 (fun x2 c1 g1 g2 => by rw [show j = x1 by omega]; exact hI138.2 x2 c1 g1 g2) _, fun h => absurd (show jcJ S _ _ _ _ = 0 by simp [jcJ, h6, h14, h23, vi, vj, vp0, vc0, h43, f130]) h⟩
                    · refine ja_aload_n K 0 dX1_join_144 rfl ?_
                      refine ja_get K hu9 0 rfl rfl 4 (by decide) (List.mem_cons_of_mem _ kfX1_17) rfl rfl dX1_join_145 ?_
                      refine ja_bipush K (nI 60) dX1_join_148 (by decide) ?_
                      refine ja_iload K 4 dX1_join_150 rfl ?_
                      refine ja_imul K (nI ((60 * c0))) dX1_join_152 (pk_mul _ _) ?_
                      refine ja_iload K 6 dX1_join_153 rfl ?_
                      refine ja_iadd K (nI (((60 * c0) + x1))) dX1_join_155 (nI_add _ _) ?_
                      refine ja_iload_n K 3 dX1_join_156 rfl ?_
                      refine ja_iconst K (nI 1) dX1_join_157 (by decide) ?_
                      refine ja_iadd K (nI ((p0 + 1))) dX1_join_158 (nI_add _ _) ?_
                      refine ja_iast K (ws1 := jmc q cI cZ (jmsU (jmsF (u) (nI 0)) (upd pa (60 * c0 + x1) (nI (p0 + 1))))) 3 0 rfl rfl (60 * c0 + x1) rfl (by omega) (by decide) dX1_join_159 rfl ?_
                      refine ja_iinc K (lv1 := [(0, .ref (q 0)), (1, .int (nI (i))), (2, .int (nI (j))), (3, .int (nI (p0))), (4, .int (nI (c0))), (5, .int (nI ((jct (fun d => jU S (i + d) c0 == none) (x - i))))), (6, .int (nI ((x1 + 1))))]) 6 (nI ((x1 + 1))) dX1_join_160 rfl (ja_inc _) (by decide) rfl rfl ?_
                      refine ja_goto K (tgt := 138) dX1_join_163 (by decide) ?_
                      exact IH138 (x1 + 1) (upd pa (60 * c0 + x1) (nI (p0 + 1))) ⟨by omega, fun x2 c1 g1 g2 => by
                        by_cases q1 : c1 = c0 ∧ x2 = x1
                        · obtain ⟨rfl, rfl⟩ := q1
                          rw [if_pos (by omega)]; exact pk_us
                        · rw [pk_un (by omega), hI138.2 x2 c1 g1 g2]
                          congr 2
                          by_cases q2 : c1 = c0 ∧ i ≤ x2 ∧ x2 < x1
                          · rw [if_pos q2, if_pos (by omega)]
                          · rw [if_neg q2, if_neg (by omega)]⟩ (by omega)
                  exact L138 i (jmU u) ⟨by omega, fun x2 c1 g1 g2 => by rw [if_neg (by omega)]; exact rU x2 c1 g1 g2⟩
                · have f130 : jbes S i j p0 c0 = true := by
                    cases q1 : jbes S i j p0 c0 with
                    | true => rfl
                    | false => have h8 := hI65.2; rw [show x - i = j - i by omega, if_neg (by rw [show jany (fun d => jU S (i + d) c0 != none && jU S (i + d) c0 != some p0) (j - i) = false from q1]; decide)] at h8; omega
                  obtain rfl : f = 3 := by have h8 := hI65.2; rw [show x - i = j - i by omega, if_pos (show jany (fun d => jU S (i + d) c0 != none && jU S (i + d) c0 != some p0) (j - i) = true from f130)] at h8; exact h8
                  refine ja_iconst K (nI 0) dX1_join_133 (by decide) ?_
                  exact ja_iret K (jmsF (u) (nI 3)) rfl (Nat.zero_le _) (Nat.zero_le _) dX1_join_134 hQ9 rfl ⟨by rw [show jcJ S _ _ _ _ = 3 by simp [jcJ, h6, h14, h23, vi, vj, vp0, vc0, h43, f130]]; rfl, fun h => (by rw [show jcJ S _ _ _ _ = 3 by simp [jcJ, h6, h14, h23, vi, vj, vp0, vc0, h43, f130]] at h; cases h), fun h => (by rw [show jcJ S _ _ _ _ = 3 by simp [jcJ, h6, h14, h23, vi, vj, vp0, vc0, h43, f130]] at h; cases h), fun _ => hS9⟩
              · refine ja_aload_n K 0 dX1_join_71 rfl ?_
                refine ja_iload K 4 dX1_join_72 rfl ?_
                refine ja_iload K 6 dX1_join_74 rfl ?_
                refine ja_callVI K (q0 := 0) (qc := (RX1, TX1, 16)) (st := []) [.int (nI (c0)), .int (nI (x))] (jd_up l D q cI cZ (jmsF (u) (nI f)) (c0) (x) (by omega) (by omega) (jU S (x) (c0)) (rU (x) (c0) (by omega) (by omega))) (cwV 2 K.1.2.2.2.2 (gX1_X1_up _) rfl rfl rfl (by decide +kernel) (by rw [hR9]; exact ⟨Nat.le_of_ble_eq_true rfl, Nat.le_of_ble_eq_true rfl⟩)) rfl rfl rfl rfl rfl (Nat.le_of_ble_eq_true rfl) dX1_join_76 (by rw [hR9]; exact ⟨Nat.le_of_ble_eq_true rfl, Nat.le_of_ble_eq_true rfl⟩) (fun r9 u9 h9 => ?_)
                obtain ⟨rfl, rfl⟩ := h9
                refine ja_istore K (lv1 := [(0, .ref (q 0)), (1, .int (nI (i))), (2, .int (nI (j))), (3, .int (nI (p0))), (4, .int (nI (c0))), (5, .int (nI ((jct (fun d => jU S (i + d) c0 == none) (x - i))))), (6, .int (nI (x))), (7, .int (jeI (jU S (x) (c0))))]) dX1_join_79 (by decide) rfl rfl ?_
                refine ja_aload_n K 0 dX1_join_81 rfl ?_
                refine ja_iload K 7 dX1_join_82 rfl ?_
                refine ja_if_lt K (tgt := 97) (jU S (x) (c0) = none) dX1_join_84 (by decide) (jeI_lt0 (fun p9 h9 => by have := (wu _ _ _ h9).2.1; omega)) (fun h84 => ?_) (fun h84 => ?_)
                · try rw [h84]
                  refine ja_aload_n K 0 dX1_join_97 rfl ?_
                  refine ja_get K hu9 0 rfl rfl 0 (by decide) (List.mem_cons_of_mem _ kfX1_38) rfl rfl dX1_join_98 ?_
                  refine ja_put K (ws1 := jmc q cI cZ (jmsF (u) (nI (f)))) hu9 0 rfl rfl 0 (by decide) (List.mem_cons_of_mem _ kfX1_38) rfl tyX1 tyX1_ok nmX1 rfl rfl rfl rfl (Nat.le_of_ble_eq_true rfl) dX1_join_101 rfl ?_
                  refine ja_iload K 7 dX1_join_104 rfl ?_
                  refine ja_if_ge K (tgt := 116) (False) dX1_join_106 (by decide) (iff_false_intro (by decide)) (fun h106 => ?_) (fun h106 => ?_)
                  · exact h106.elim
                  · refine ja_iload K 5 dX1_join_109 rfl ?_
                    refine ja_iconst K (nI 1) dX1_join_111 (by decide) ?_
                    refine ja_iadd K (nI (((jct (fun d => jU S (i + d) c0 == none) (x - i)) + 1))) dX1_join_112 (nI_add _ _) ?_
                    refine ja_goto K (tgt := 118) dX1_join_113 (by decide) ?_
                    refine ja_istore K (lv1 := [(0, .ref (q 0)), (1, .int (nI (i))), (2, .int (nI (j))), (3, .int (nI (p0))), (4, .int (nI (c0))), (5, .int (nI (((jct (fun d => jU S (i + d) c0 == none) (x - i)) + 1)))), (6, .int (nI (x))), (7, .int (-1))]) dX1_join_118 (by decide) rfl rfl ?_
                    refine ja_iinc K (lv1 := [(0, .ref (q 0)), (1, .int (nI (i))), (2, .int (nI (j))), (3, .int (nI (p0))), (4, .int (nI (c0))), (5, .int (nI (((jct (fun d => jU S (i + d) c0 == none) (x - i)) + 1)))), (6, .int (nI ((x + 1)))), (7, .int (-1))]) 6 (nI ((x + 1))) dX1_join_120 rfl (ja_inc _) (by decide) rfl rfl ?_
                    refine ja_goto K (tgt := 65) dX1_join_123 (by decide) ?_
                    refine ja_locals (lv1 := [(0, .ref (q 0)), (1, .int (nI (i))), (2, .int (nI (j))), (3, .int (nI (p0))), (4, .int (nI (c0))), (5, .int (nI (((jct (fun d => jU S (i + d) c0 == none) (x - i)) + 1)))), (6, .int (nI ((x + 1))))]) [0, 1, 2, 3, 4, 5, 6] rfl ?_
                    have e90 : jct (fun d => jU S (i + d) c0 == none) (x + 1 - i) = ((jct (fun d => jU S (i + d) c0 == none) (x - i)) + 1) := by rw [show x + 1 - i = (x - i) + 1 by omega]; simp [jct, show i + (x - i) = x by omega, h84]
                    have e91 : f = (if jany (fun d => jU S (i + d) c0 != none && jU S (i + d) c0 != some p0) (x + 1 - i) = true then 3 else 0) := by
                      rw [show x + 1 - i = (x - i) + 1 by omega]
                      simp only [jany, show i + (x - i) = x by omega]
                      rw [show (jU S x c0 != none && jU S x c0 != some p0) = false by simp [h84], Bool.or_false]; exact hI65.2
                    have k9 := IH65 (x + 1) f ⟨by omega, e91⟩ (by omega)
                    rw [e90] at k9
                    exact k9
                · obtain ⟨y84, ey84⟩ := Option.ne_none_iff_exists'.mp h84
                  try rw [ey84]
                  have by84 := wu _ _ _ ey84
                  refine ja_iload K 7 dX1_join_87 rfl ?_
                  refine ja_iload_n K 3 dX1_join_89 rfl ?_
                  refine ja_icmp_eq K (tgt := 97) (y84 = p0) dX1_join_90 (by decide) (nI_eq (by omega) (by omega)) (fun h90 => ?_) (fun h90 => ?_)
                  · refine ja_aload_n K 0 dX1_join_97 rfl ?_
                    refine ja_get K hu9 0 rfl rfl 0 (by decide) (List.mem_cons_of_mem _ kfX1_38) rfl rfl dX1_join_98 ?_
                    refine ja_put K (ws1 := jmc q cI cZ (jmsF (u) (nI (f)))) hu9 0 rfl rfl 0 (by decide) (List.mem_cons_of_mem _ kfX1_38) rfl tyX1 tyX1_ok nmX1 rfl rfl rfl rfl (Nat.le_of_ble_eq_true rfl) dX1_join_101 rfl ?_
                    refine ja_iload K 7 dX1_join_104 rfl ?_
                    refine ja_if_ge K (tgt := 116) (0 ≤ y84) dX1_join_106 (by decide) (jz_ge (by omega)) (fun h106 => ?_) (fun h106 => ?_)
                    · refine ja_iload K 5 dX1_join_116 rfl ?_
                      refine ja_istore K (lv1 := [(0, .ref (q 0)), (1, .int (nI (i))), (2, .int (nI (j))), (3, .int (nI (p0))), (4, .int (nI (c0))), (5, .int (nI ((jct (fun d => jU S (i + d) c0 == none) (x - i))))), (6, .int (nI (x))), (7, .int (nI (y84)))]) dX1_join_118 (by decide) rfl rfl ?_
                      refine ja_iinc K (lv1 := [(0, .ref (q 0)), (1, .int (nI (i))), (2, .int (nI (j))), (3, .int (nI (p0))), (4, .int (nI (c0))), (5, .int (nI ((jct (fun d => jU S (i + d) c0 == none) (x - i))))), (6, .int (nI ((x + 1)))), (7, .int (nI (y84)))]) 6 (nI ((x + 1))) dX1_join_120 rfl (ja_inc _) (by decide) rfl rfl ?_
                      refine ja_goto K (tgt := 65) dX1_join_123 (by decide) ?_
                      refine ja_locals (lv1 := [(0, .ref (q 0)), (1, .int (nI (i))), (2, .int (nI (j))), (3, .int (nI (p0))), (4, .int (nI (c0))), (5, .int (nI ((jct (fun d => jU S (i + d) c0 == none) (x - i))))), (6, .int (nI ((x + 1))))]) [0, 1, 2, 3, 4, 5, 6] rfl ?_
                      have e90 : jct (fun d => jU S (i + d) c0 == none) (x + 1 - i) = (jct (fun d => jU S (i + d) c0 == none) (x - i)) := by rw [show x + 1 - i = (x - i) + 1 by omega]; simp [jct, show i + (x - i) = x by omega, ey84]
                      have e91 : f = (if jany (fun d => jU S (i + d) c0 != none && jU S (i + d) c0 != some p0) (x + 1 - i) = true then 3 else 0) := by
                        rw [show x + 1 - i = (x - i) + 1 by omega]
                        simp only [jany, show i + (x - i) = x by omega]
                        rw [show (jU S x c0 != none && jU S x c0 != some p0) = false by simp [ey84, h90], Bool.or_false]; exact hI65.2
                      have k9 := IH65 (x + 1) f ⟨by omega, e91⟩ (by omega)
                      rw [e90] at k9
                      exact k9
                    · exact absurd (Nat.zero_le _) h106
                  · refine ja_iconst K (nI 3) dX1_join_93 (by decide) ?_
                    refine ja_goto K (tgt := 101) dX1_join_94 (by decide) ?_
                    refine ja_put K (ws1 := jmc q cI cZ (jmsF (u) (nI 3))) hu9 0 rfl rfl 0 (by decide) (List.mem_cons_of_mem _ kfX1_38) rfl tyX1 tyX1_ok nmX1 rfl rfl rfl rfl (Nat.le_of_ble_eq_true rfl) dX1_join_101 rfl ?_
                    refine ja_iload K 7 dX1_join_104 rfl ?_
                    refine ja_if_ge K (tgt := 116) (0 ≤ y84) dX1_join_106 (by decide) (jz_ge (by omega)) (fun h106 => ?_) (fun h106 => ?_)
                    · refine ja_iload K 5 dX1_join_116 rfl ?_
                      refine ja_istore K (lv1 := [(0, .ref (q 0)), (1, .int (nI (i))), (2, .int (nI (j))), (3, .int (nI (p0))), (4, .int (nI (c0))), (5, .int (nI ((jct (fun d => jU S (i + d) c0 == none) (x - i))))), (6, .int (nI (x))), (7, .int (nI (y84)))]) dX1_join_118 (by decide) rfl rfl ?_
                      refine ja_iinc K (lv1 := [(0, .ref (q 0)), (1, .int (nI (i))), (2, .int (nI (j))), (3, .int (nI (p0))), (4, .int (nI (c0))), (5, .int (nI ((jct (fun d => jU S (i + d) c0 == none) (x - i))))), (6, .int (nI ((x + 1)))), (7, .int (nI (y84)))]) 6 (nI ((x + 1))) dX1_join_120 rfl (ja_inc _) (by decide) rfl rfl ?_
                      refine ja_goto K (tgt := 65) dX1_join_123 (by decide) ?_
                      refine ja_locals (lv1 := [(0, .ref (q 0)), (1, .int (nI (i))), (2, .int (nI (j))), (3, .int (nI (p0))), (4, .int (nI (c0))), (5, .int (nI ((jct (fun d => jU S (i + d) c0 == none) (x - i))))), (6, .int (nI ((x + 1))))]) [0, 1, 2, 3, 4, 5, 6] rfl ?_
                      have e90 : jct (fun d => jU S (i + d) c0 == none) (x + 1 - i) = (jct (fun d => jU S (i + d) c0 == none) (x - i)) := by rw [show x + 1 - i = (x - i) + 1 by omega]; simp [jct, show i + (x - i) = x by omega, ey84]
                      have e91 : 3 = (if jany (fun d => jU S (i + d) c0 != none && jU S (i + d) c0 != some p0) (x + 1 - i) = true then 3 else 0) := by
                        rw [show x + 1 - i = (x - i) + 1 by omega]
                        simp only [jany, show i + (x - i) = x by omega]
                        rw [show (jU S x c0 != none && jU S x c0 != some p0) = true by simp [ey84, h90], Bool.or_true]; rfl
                      have k9 := IH65 (x + 1) 3 ⟨by omega, e91⟩ (by omega)
                      rw [e90] at k9
                      exact k9
                    · exact absurd (Nat.zero_le _) h106
            have k9 := L65 i 0 ⟨by omega, by rw [Nat.sub_self]; rfl⟩
            rw [Nat.sub_self] at k9
            exact k9
          · exact absurd (by decide) h54
        · refine ja_iconst K (nI 2) dX1_join_46 (by decide) ?_
          refine ja_goto K (tgt := 51) dX1_join_47 (by decide) ?_
          refine ja_callVI K (q0 := 0) (qc := (RX1, TX1, 16)) (st := []) [.int (nI 2)] (jd_refused l D q cI cZ (u) (2) (by omega)) (cwV 1 K.1.2.2.2.2 (gX1_X1_refused _) rfl rfl rfl (by decide +kernel) (by rw [hR9]; exact ⟨Nat.le_of_ble_eq_true rfl, Nat.le_of_ble_eq_true rfl⟩)) rfl rfl rfl rfl rfl (Nat.le_of_ble_eq_true rfl) dX1_join_51 (by rw [hR9]; exact ⟨Nat.le_of_ble_eq_true rfl, Nat.le_of_ble_eq_true rfl⟩) (fun r9 u9 h9 => ?_)
          obtain ⟨rfl, rfl⟩ := h9
          refine ja_if_eq K (tgt := 59) (decide (0 < 2) = false) dX1_join_54 (by decide) (jbI_ne _) (fun h54 => ?_) (fun h54 => ?_)
          · exact absurd h54 (by decide)
          · refine ja_iconst K (nI 0) dX1_join_57 (by decide) ?_
            exact ja_iret K (jmsF (u) (nI 2)) rfl (Nat.zero_le _) (Nat.zero_le _) dX1_join_58 hQ9 rfl ⟨by rw [show jcJ S _ _ _ _ = 2 by simp [jcJ, h6, h14, h23, vi, vj, vp0, vc0, h43]]; rfl, fun h => (by rw [show jcJ S _ _ _ _ = 2 by simp [jcJ, h6, h14, h23, vi, vj, vp0, vc0, h43]] at h; cases h), fun h => (by rw [show jcJ S _ _ _ _ = 2 by simp [jcJ, h6, h14, h23, vi, vj, vp0, vc0, h43]] at h; cases h), fun _ => hS9⟩
      · refine ja_iconst K (nI 1) dX1_join_26 (by decide) ?_
        refine ja_goto K (tgt := 51) dX1_join_27 (by decide) ?_
        refine ja_callVI K (q0 := 0) (qc := (RX1, TX1, 16)) (st := []) [.int (nI 1)] (jd_refused l D q cI cZ (u) (1) (by omega)) (cwV 1 K.1.2.2.2.2 (gX1_X1_refused _) rfl rfl rfl (by decide +kernel) (by rw [hR9]; exact ⟨Nat.le_of_ble_eq_true rfl, Nat.le_of_ble_eq_true rfl⟩)) rfl rfl rfl rfl rfl (Nat.le_of_ble_eq_true rfl) dX1_join_51 (by rw [hR9]; exact ⟨Nat.le_of_ble_eq_true rfl, Nat.le_of_ble_eq_true rfl⟩) (fun r9 u9 h9 => ?_)
        obtain ⟨rfl, rfl⟩ := h9
        refine ja_if_eq K (tgt := 59) (decide (0 < 1) = false) dX1_join_54 (by decide) (jbI_ne _) (fun h54 => ?_) (fun h54 => ?_)
        · exact absurd h54 (by decide)
        · refine ja_iconst K (nI 0) dX1_join_57 (by decide) ?_
          exact ja_iret K (jmsF (u) (nI 1)) rfl (Nat.zero_le _) (Nat.zero_le _) dX1_join_58 hQ9 rfl ⟨by rw [show jcJ S _ _ _ _ = 1 by simp [jcJ, h6, h14, h23]]; rfl, fun h => (by rw [show jcJ S _ _ _ _ = 1 by simp [jcJ, h6, h14, h23]] at h; cases h), fun h => (by rw [show jcJ S _ _ _ _ = 1 by simp [jcJ, h6, h14, h23]] at h; cases h), fun _ => hS9⟩
