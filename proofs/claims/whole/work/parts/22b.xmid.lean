set_option maxRecDepth 100000 in
set_option maxHeartbeats 4000000 in
theorem jc_setParents (l : Launch) (D : va_G) (q : Nat → Nat) (cI cZ : ClassId) (S : JS) (u : JX) (hW9 : jWf S) (hS9 : jxR1 S u) (i j c0 : Nat) (o : Option Nat) (hij : i < j) (hj : j ≤ 60) (hc : c0 < 14) (ho : ∀ p, o = some p → p < 14) : jkI l yX0_setParents wsX0_setParents ({ frames := 1, cells := 0, slots := 0, locals := 22 }) D vwCl (jxt cI cZ) (jxc q cI cZ) [.ref (q 0), .int (nI i), .int (nI j), .int (nI c0), .int (jeI o)] (jxc q cI cZ u) (fun r u1 => nI (jct (fun d => jU S (i + d) c0 != o) (j - i)) = r ∧ ∃ pa, u1 = jxsU u pa ∧ ∀ x1 c1, x1 < 60 → c1 < 14 → pa (x1 * 14 + c1) = jeI (if c1 = c0 ∧ i ≤ x1 ∧ x1 < j then o else jU S x1 c1)) := by
  refine jkI_of (cc := cX0_setParents) (maxL := 7) (ret := (some .int)) (by decide) rfl (Nat.le_of_ble_eq_true rfl) ?_
  intro p e R s m args below meth c Q A K hn9 hR9 hQ9
  obtain ⟨rN, rT, rM, rU, rK, rP, rA, rL, rB⟩ := id hS9
  obtain ⟨wn, wt, wu, wk, wp, wl, wb⟩ := id hW9
  have hu9 : ∀ w ∈ u_ws RX0 TX0 13, w ∈ wsX0_setParents := fun w h => List.mem_cons_of_mem _ (ku_X0 w h)
  show jaW p l e R s m args below meth c 0 0 Q D vwCl A 7 (jxc q cI cZ u) [(0, .ref (q 0)), (1, .int (nI (i))), (2, .int (nI (j))), (3, .int (nI (c0))), (4, .int (jeI (o)))] 0 []
  refine ja_iconst K (nI 0) dX0_setParents_0 (by decide) ?_
  refine ja_istore K (lv1 := [(0, .ref (q 0)), (1, .int (nI (i))), (2, .int (nI (j))), (3, .int (nI (c0))), (4, .int (jeI (o))), (5, .int (nI 0))]) dX0_setParents_1 (by decide) rfl rfl ?_
  refine ja_iload_n K 1 dX0_setParents_3 rfl ?_
  refine ja_istore K (lv1 := [(0, .ref (q 0)), (1, .int (nI (i))), (2, .int (nI (j))), (3, .int (nI (c0))), (4, .int (jeI (o))), (5, .int (nI 0)), (6, .int (nI (i)))]) dX0_setParents_4 (by decide) rfl rfl ?_
  have L6 : ∀ (x : Nat) (pa : Nat → Int32), ((i ≤ x ∧ x ≤ j) ∧ (∀ x1 c1, x1 < 60 → c1 < 14 → pa (x1 * 14 + c1) = jeI (if c1 = c0 ∧ i ≤ x1 ∧ x1 < x then o else jU S x1 c1))) → jaW p l e R s m args below meth c 0 0 Q D vwCl A 7 (jxc q cI cZ (jxsU u pa)) [(0, .ref (q 0)), (1, .int (nI (i))), (2, .int (nI (j))), (3, .int (nI (c0))), (4, .int (jeI (o))), (5, .int (nI ((jct (fun d => jU S (i + d) c0 != o) (x - i))))), (6, .int (nI (x)))] 6 [] := by
    refine jl_2 (fun (x : Nat) (pa : Nat → Int32) => j - x) (fun (x : Nat) (pa : Nat → Int32) => (i ≤ x ∧ x ≤ j) ∧ (∀ x1 c1, x1 < 60 → c1 < 14 → pa (x1 * 14 + c1) = jeI (if c1 = c0 ∧ i ≤ x1 ∧ x1 < x then o else jU S x1 c1))) _ ?_
    intro x pa hI6 IH6
    refine ja_iload K 6 dX0_setParents_6 rfl ?_
    refine ja_iload_n K 2 dX0_setParents_8 rfl ?_
    refine ja_icmp_ge K (tgt := 47) (j ≤ x) dX0_setParents_9 (by decide) (nI_leI (by omega) (by omega)) (fun h9 => ?_) (fun h9 => ?_)
    · refine ja_iload K 5 dX0_setParents_47 rfl ?_
      exact ja_iret K (jxsU u pa) rfl (Nat.zero_le _) (Nat.zero_le _) dX0_setParents_49 hQ9 rfl ⟨by rw [show j - i = x - i by omega], pa, rfl, by rw [show j = x by omega]; exact hI6.2⟩
    · refine ja_aload_n K 0 dX0_setParents_12 rfl ?_
      refine ja_iload K 6 dX0_setParents_13 rfl ?_
      refine ja_iload_n K 3 dX0_setParents_15 rfl ?_
      refine ja_callVI K (q0 := 0) (qc := (RX0, TX0, 13)) (st := []) [.int (nI (x)), .int (nI (c0))] (jc_parentAt l D q cI cZ (jxsU u pa) (x) (c0) (by omega) (by omega) (jU S (x) (c0)) (by have h9 := hI6.2 x c0 (by omega) hc; rw [if_neg (by omega)] at h9; exact h9)) (cwV 2 K.1.2.2.2.2 (gX0_X0_parentAt _) rfl rfl rfl (by decide +kernel) (by rw [hR9]; exact ⟨Nat.le_of_ble_eq_true rfl, Nat.le_of_ble_eq_true rfl⟩)) rfl rfl rfl rfl rfl (Nat.le_of_ble_eq_true rfl) dX0_setParents_16 (by rw [hR9]; exact ⟨Nat.le_of_ble_eq_true rfl, Nat.le_of_ble_eq_true rfl⟩) (fun r9 u9 h9 => ?_)
      obtain ⟨rfl, rfl⟩ := h9
      refine ja_iload K 4 dX0_setParents_19 rfl ?_
      refine ja_icmp_eq K (tgt := 41) (jU S (x) (c0) = o) dX0_setParents_21 (by decide) (jeI_inj (fun p9 h9 => by have := (wu _ _ _ h9).2.1; omega) (fun p9 h9 => by have := ho p9 h9; omega)) (fun h21 => ?_) (fun h21 => ?_)
      · refine ja_iinc K (lv1 := [(0, .ref (q 0)), (1, .int (nI (i))), (2, .int (nI (j))), (3, .int (nI (c0))), (4, .int (jeI (o))), (5, .int (nI ((jct (fun d => jU S (i + d) c0 != o) (x - i))))), (6, .int (nI ((x + 1))))]) 6 (nI ((x + 1))) dX0_setParents_41 rfl (ja_inc _) (by decide) rfl rfl ?_
        refine ja_goto K (tgt := 6) dX0_setParents_44 (by decide) ?_
        have e90 : jct (fun d => jU S (i + d) c0 != o) (x + 1 - i) = (jct (fun d => jU S (i + d) c0 != o) (x - i)) := by rw [show x + 1 - i = (x - i) + 1 by omega]; simp [jct, show i + (x - i) = x by omega, h21]
        have k9 := IH6 (x + 1) pa ⟨by omega, fun x1 c1 g1 g2 => by
          rw [hI6.2 x1 c1 g1 g2]
          congr 1
          by_cases q1 : c1 = c0 ∧ x1 = x
          · obtain ⟨rfl, rfl⟩ := q1
            rw [if_neg (by omega), if_pos (by omega)]; exact h21
          · by_cases q2 : c1 = c0 ∧ i ≤ x1 ∧ x1 < x
            · rw [if_pos q2, if_pos (by omega)]
            · rw [if_neg q2, if_neg (by omega)]⟩ (by omega)
        rw [e90] at k9
        exact k9
      · refine ja_aload_n K 0 dX0_setParents_24 rfl ?_
        refine ja_get K hu9 0 rfl rfl 3 (by decide) (List.mem_cons_of_mem _ kfX0_21) rfl rfl dX0_setParents_25 ?_
        refine ja_iload K 6 dX0_setParents_28 rfl ?_
        refine ja_bipush K (nI 14) dX0_setParents_30 (by decide) ?_
        refine ja_imul K (nI ((x * 14))) dX0_setParents_32 (pk_mul _ _) ?_
        refine ja_iload_n K 3 dX0_setParents_33 rfl ?_
        refine ja_iadd K (nI (((x * 14) + c0))) dX0_setParents_34 (nI_add _ _) ?_
        refine ja_iload K 4 dX0_setParents_35 rfl ?_
        refine ja_iast K (ws1 := jxc q cI cZ (jxsU u (upd pa (x * 14 + c0) (jeI o)))) 3 0 rfl rfl (((x * 14) + c0)) rfl (by omega) (by decide) dX0_setParents_37 rfl ?_
        refine ja_iinc K (lv1 := [(0, .ref (q 0)), (1, .int (nI (i))), (2, .int (nI (j))), (3, .int (nI (c0))), (4, .int (jeI (o))), (5, .int (nI (((jct (fun d => jU S (i + d) c0 != o) (x - i)) + 1)))), (6, .int (nI (x)))]) 5 (nI (((jct (fun d => jU S (i + d) c0 != o) (x - i)) + 1))) dX0_setParents_38 rfl (ja_inc _) (by decide) rfl rfl ?_
        refine ja_iinc K (lv1 := [(0, .ref (q 0)), (1, .int (nI (i))), (2, .int (nI (j))), (3, .int (nI (c0))), (4, .int (jeI (o))), (5, .int (nI (((jct (fun d => jU S (i + d) c0 != o) (x - i)) + 1)))), (6, .int (nI ((x + 1))))]) 6 (nI ((x + 1))) dX0_setParents_41 rfl (ja_inc _) (by decide) rfl rfl ?_
        refine ja_goto K (tgt := 6) dX0_setParents_44 (by decide) ?_
        have e90 : jct (fun d => jU S (i + d) c0 != o) (x + 1 - i) = ((jct (fun d => jU S (i + d) c0 != o) (x - i)) + 1) := by rw [show x + 1 - i = (x - i) + 1 by omega]; simp [jct, show i + (x - i) = x by omega, h21]
        have k9 := IH6 (x + 1) (upd pa (x * 14 + c0) (jeI o)) ⟨by omega, fun x1 c1 g1 g2 => by
          by_cases q1 : c1 = c0 ∧ x1 = x
          · obtain ⟨rfl, rfl⟩ := q1
            rw [if_pos (by omega)]; exact pk_us
          · rw [pk_un (by omega), hI6.2 x1 c1 g1 g2]
            congr 1
            by_cases q2 : c1 = c0 ∧ i ≤ x1 ∧ x1 < x
            · rw [if_pos q2, if_pos (by omega)]
            · rw [if_neg q2, if_neg (by omega)]⟩ (by omega)
        rw [e90] at k9
        exact k9
  have k9 := L6 i (jxU u) ⟨by omega, fun x1 c1 h1 h2 => by rw [if_neg (by omega)]; exact rU x1 c1 h1 h2⟩
  rw [Nat.sub_self] at k9
  exact k9
