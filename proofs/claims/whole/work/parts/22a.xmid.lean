set_option maxRecDepth 100000 in
set_option maxHeartbeats 4000000 in
theorem jc_hasParentBeside (l : Launch) (D : va_G) (q : Nat → Nat) (cI cZ : ClassId) (S : JS) (u : JX) (hW9 : jWf S) (hS9 : jxR1 S u) (i j p0 c0 : Nat) (hij : i < j) (hj : j ≤ 60) (hp : p0 < 14) (hc : c0 < 14) : jkI l yX0_hasParentBeside wsX0_hasParentBeside ({ frames := 1, cells := 0, slots := 0, locals := 22 }) D vwCl (jxt cI cZ) (jxc q cI cZ) [.ref (q 0), .int (nI i), .int (nI j), .int (nI p0), .int (nI c0)] (jxc q cI cZ u) (fun r u1 => jbI (jany (fun d => jU S (i + d) c0 != none && jU S (i + d) c0 != some p0) (j - i)) = r ∧ u = u1) := by
  refine jkI_of (cc := cX0_hasParentBeside) (maxL := 7) (ret := (some .boolean)) (by decide) rfl (Nat.le_of_ble_eq_true rfl) ?_
  intro p e R s m args below meth c Q A K hn9 hR9 hQ9
  obtain ⟨rN, rT, rM, rU, rK, rP, rA, rL, rB⟩ := id hS9
  obtain ⟨wn, wt, wu, wk, wp, wl, wb⟩ := id hW9
  have hu9 : ∀ w ∈ u_ws RX0 TX0 13, w ∈ wsX0_hasParentBeside := fun w h => List.mem_cons_of_mem _ (ku_X0 w h)
  show jaW p l e R s m args below meth c 0 0 Q D vwCl A 7 (jxc q cI cZ u) [(0, .ref (q 0)), (1, .int (nI (i))), (2, .int (nI (j))), (3, .int (nI (p0))), (4, .int (nI (c0)))] 0 []
  refine ja_iload_n K 1 dX0_hasParentBeside_0 rfl ?_
  refine ja_istore K (lv1 := [(0, .ref (q 0)), (1, .int (nI (i))), (2, .int (nI (j))), (3, .int (nI (p0))), (4, .int (nI (c0))), (5, .int (nI (i)))]) dX0_hasParentBeside_1 (by decide) rfl rfl ?_
  have L3 : ∀ (x : Nat), ((i ≤ x ∧ x ≤ j) ∧ jany (fun d => jU S (i + d) c0 != none && jU S (i + d) c0 != some p0) (x - i) = false) → jaW p l e R s m args below meth c 0 0 Q D vwCl A 7 (jxc q cI cZ u) [(0, .ref (q 0)), (1, .int (nI (i))), (2, .int (nI (j))), (3, .int (nI (p0))), (4, .int (nI (c0))), (5, .int (nI (x)))] 3 [] := by
    refine jl_1 (fun (x : Nat) => j - x) (fun (x : Nat) => (i ≤ x ∧ x ≤ j) ∧ jany (fun d => jU S (i + d) c0 != none && jU S (i + d) c0 != some p0) (x - i) = false) _ ?_
    intro x hI3 IH3
    refine ja_iload K 5 dX0_hasParentBeside_3 rfl ?_
    refine ja_iload_n K 2 dX0_hasParentBeside_5 rfl ?_
    refine ja_icmp_ge K (tgt := 39) (j ≤ x) dX0_hasParentBeside_6 (by decide) (nI_leI (by omega) (by omega)) (fun h6 => ?_) (fun h6 => ?_)
    · refine ja_iconst K (nI 0) dX0_hasParentBeside_39 (by decide) ?_
      exact ja_zret K (u) rfl (by first | exact ja_nz1 | exact ja_nz0 | exact jbI_narrow _) (Nat.zero_le _) (Nat.zero_le _) dX0_hasParentBeside_40 hQ9 rfl ⟨jb0 (by rw [show j - i = x - i by omega]; exact hI3.2), rfl⟩
    · refine ja_aload_n K 0 dX0_hasParentBeside_9 rfl ?_
      refine ja_iload K 5 dX0_hasParentBeside_10 rfl ?_
      refine ja_iload K 4 dX0_hasParentBeside_12 rfl ?_
      refine ja_callVI K (q0 := 0) (qc := (RX0, TX0, 13)) (st := []) [.int (nI (x)), .int (nI (c0))] (jc_parentAt l D q cI cZ (u) (x) (c0) (by omega) (by omega) (jU S (x) (c0)) (rU _ _ (by omega) (by omega))) (cwV 2 K.1.2.2.2.2 (gX0_X0_parentAt _) rfl rfl rfl (by decide +kernel) (by rw [hR9]; exact ⟨Nat.le_of_ble_eq_true rfl, Nat.le_of_ble_eq_true rfl⟩)) rfl rfl rfl rfl rfl (Nat.le_of_ble_eq_true rfl) dX0_hasParentBeside_14 (by rw [hR9]; exact ⟨Nat.le_of_ble_eq_true rfl, Nat.le_of_ble_eq_true rfl⟩) (fun r9 u9 h9 => ?_)
      obtain ⟨rfl, rfl⟩ := h9
      refine ja_istore K (lv1 := [(0, .ref (q 0)), (1, .int (nI (i))), (2, .int (nI (j))), (3, .int (nI (p0))), (4, .int (nI (c0))), (5, .int (nI (x))), (6, .int (jeI (jU S (x) (c0))))]) dX0_hasParentBeside_17 (by decide) rfl rfl ?_
      refine ja_iload K 6 dX0_hasParentBeside_19 rfl ?_
      refine ja_iconst K (-1) dX0_hasParentBeside_21 (by decide) ?_
      refine ja_icmp_eq K (tgt := 33) (jU S (x) (c0) = none) dX0_hasParentBeside_22 (by decide) (jeI_m1 (fun p9 h9 => by have := (wu _ _ _ h9).2.1; omega)) (fun h22 => ?_) (fun h22 => ?_)
      · refine ja_iinc K (lv1 := [(0, .ref (q 0)), (1, .int (nI (i))), (2, .int (nI (j))), (3, .int (nI (p0))), (4, .int (nI (c0))), (5, .int (nI ((x + 1)))), (6, .int (jeI (jU S (x) (c0))))]) 5 (nI ((x + 1))) dX0_hasParentBeside_33 rfl (ja_inc _) (by decide) rfl rfl ?_
        refine ja_goto K (tgt := 3) dX0_hasParentBeside_36 (by decide) ?_
        refine ja_locals (lv1 := [(0, .ref (q 0)), (1, .int (nI (i))), (2, .int (nI (j))), (3, .int (nI (p0))), (4, .int (nI (c0))), (5, .int (nI ((x + 1))))]) [0, 1, 2, 3, 4, 5] rfl ?_
        have k9 := IH3 (x + 1) ⟨by omega, by rw [show x + 1 - i = (x - i) + 1 by omega]; simp only [jany, hI3.2, show i + (x - i) = x by omega]; simp [h22]⟩ (by omega)
        exact k9
      · obtain ⟨y22, ey22⟩ := Option.ne_none_iff_exists'.mp h22
        try rw [ey22]
        have by22 := wu _ _ _ ey22
        refine ja_iload K 6 dX0_hasParentBeside_25 rfl ?_
        refine ja_iload_n K 3 dX0_hasParentBeside_27 rfl ?_
        refine ja_icmp_eq K (tgt := 33) (y22 = p0) dX0_hasParentBeside_28 (by decide) (nI_eq (by omega) (by omega)) (fun h28 => ?_) (fun h28 => ?_)
        · refine ja_iinc K (lv1 := [(0, .ref (q 0)), (1, .int (nI (i))), (2, .int (nI (j))), (3, .int (nI (p0))), (4, .int (nI (c0))), (5, .int (nI ((x + 1)))), (6, .int (nI (y22)))]) 5 (nI ((x + 1))) dX0_hasParentBeside_33 rfl (ja_inc _) (by decide) rfl rfl ?_
          refine ja_goto K (tgt := 3) dX0_hasParentBeside_36 (by decide) ?_
          refine ja_locals (lv1 := [(0, .ref (q 0)), (1, .int (nI (i))), (2, .int (nI (j))), (3, .int (nI (p0))), (4, .int (nI (c0))), (5, .int (nI ((x + 1))))]) [0, 1, 2, 3, 4, 5] rfl ?_
          have k9 := IH3 (x + 1) ⟨by omega, by rw [show x + 1 - i = (x - i) + 1 by omega]; simp only [jany, hI3.2, show i + (x - i) = x by omega]; rw [ey22]; simp [h28]⟩ (by omega)
          exact k9
        · refine ja_iconst K (nI 1) dX0_hasParentBeside_31 (by decide) ?_
          exact ja_zret K (u) rfl (by first | exact ja_nz1 | exact ja_nz0 | exact jbI_narrow _) (Nat.zero_le _) (Nat.zero_le _) dX0_hasParentBeside_32 hQ9 rfl ⟨jb1 (jany_iff.mpr ⟨x - i, by omega, by simp only [show i + (x - i) = x by omega, ey22]; simp [h28]⟩), rfl⟩
  exact L3 i ⟨by omega, by rw [Nat.sub_self]; rfl⟩
