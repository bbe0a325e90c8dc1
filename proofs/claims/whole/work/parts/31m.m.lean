set_option maxRecDepth 100000 in
set_option maxHeartbeats 4000000 in
theorem jd_isTaken (l : Launch) (D : va_G) (q : Nat → Nat) (cI cZ : ClassId) (S : JS) (u : JM) (hW9 : jWf S) (hS9 : jmR1 S u) (x : Nat) (hx : x < 60) : jkI l yX1_isTaken wsX1_isTaken ({ frames := 0, cells := 0, slots := 0, locals := 0 }) D vwCl (jxt cI cZ) (jmc q cI cZ) [.ref (q 0), .int (nI x)] (jmc q cI cZ u) (fun r u1 => jbI (jtaken S x) = r ∧ u = u1) := by
  refine jkI_of (cc := cX1_isTaken) (maxL := 4) (ret := (some .boolean)) (by decide) rfl (Nat.le_of_ble_eq_true rfl) ?_
  intro p e R s m args below meth c Q A K hn9 hR9 hQ9
  obtain ⟨rN, rT, rM, rU, rK, rP, rA, rL, rB⟩ := id hS9
  obtain ⟨wn, wt, wu, wk, wp, wl, wb⟩ := id hW9
  have hu9 : ∀ w ∈ u_ws RX1 TX1 16, w ∈ wsX1_isTaken := fun w h => List.mem_cons_of_mem _ (ku_X1 w h)
  show jaW p l e R s m args below meth c 0 0 Q D vwCl A 4 (jmc q cI cZ u) [(0, .ref (q 0)), (1, .int (nI (x)))] 0 []
  refine ja_iconst K (nI 0) dX1_isTaken_0 (by decide) ?_
  refine ja_istore_n K (lv1 := [(0, .ref (q 0)), (1, .int (nI (x))), (2, .int (nI 0))]) dX1_isTaken_1 (by decide) rfl rfl ?_
  refine ja_iconst K (nI 0) dX1_isTaken_2 (by decide) ?_
  refine ja_istore_n K (lv1 := [(0, .ref (q 0)), (1, .int (nI (x))), (2, .int (nI 0)), (3, .int (nI 0))]) dX1_isTaken_3 (by decide) rfl rfl ?_
  have L4 : ∀ (i : Nat), (i ≤ jK S) → jaW p l e R s m args below meth c 0 0 Q D vwCl A 4 (jmc q cI cZ u) [(0, .ref (q 0)), (1, .int (nI (x))), (2, .int (jbI (jany (fun j => jP S j == x) i))), (3, .int (nI (i)))] 4 [] := by
    refine jl_1 (fun (i : Nat) => jK S - i) (fun (i : Nat) => i ≤ jK S) _ ?_
    intro i hI4 IH4
    refine ja_iload_n K 3 dX1_isTaken_4 rfl ?_
    refine ja_aload_n K 0 dX1_isTaken_5 rfl ?_
    refine ja_get K hu9 0 rfl rfl 5 (by decide) (List.mem_cons_of_mem _ kfX1_45) rfl (congrArg (fun z9 => some (Value.int z9)) rK) dX1_isTaken_6 ?_
    refine ja_icmp_ge K (tgt := 38) ((jK S) ≤ i) dX1_isTaken_9 (by decide) (nI_leI (by omega) (by omega)) (fun h9 => ?_) (fun h9 => ?_)
    · refine ja_iload_n K 2 dX1_isTaken_38 rfl ?_
      exact ja_zret K (u) rfl (by first | exact ja_nz1 | exact ja_nz0 | exact jbI_narrow _) (Nat.zero_le _) (Nat.zero_le _) dX1_isTaken_39 hQ9 rfl ⟨by rw [jtaken, show i = jK S by omega], rfl⟩
    · have b9 := (wp i (by omega)).1
      refine ja_iload_n K 2 dX1_isTaken_12 rfl ?_
      refine ja_if_ne K (tgt := 26) (jany (fun j => jP S j == x) i = true) dX1_isTaken_13 (by decide) (jbI_nz _) (fun h13 => ?_) (fun h13 => ?_)
      · refine ja_iconst K (nI 1) dX1_isTaken_26 (by decide) ?_
        refine ja_goto K (tgt := 31) dX1_isTaken_27 (by decide) ?_
        refine ja_istore_n K (lv1 := [(0, .ref (q 0)), (1, .int (nI (x))), (2, .int (nI 1)), (3, .int (nI (i)))]) dX1_isTaken_31 (by decide) rfl rfl ?_
        refine ja_iinc K (lv1 := [(0, .ref (q 0)), (1, .int (nI (x))), (2, .int (nI 1)), (3, .int (nI ((i + 1))))]) 3 (nI ((i + 1))) dX1_isTaken_32 rfl (ja_inc _) (by decide) rfl rfl ?_
        refine ja_goto K (tgt := 4) dX1_isTaken_35 (by decide) ?_
        have e90 : jbI (jany (fun j => jP S j == x) (i + 1)) = nI 1 := by first | exact jb1 (by simp [jany, h9, h13]) | exact jb0 (by simp [jany, h9, h13])
        have k9 := IH4 (i + 1) (by omega) (by omega)
        rw [e90] at k9
        exact k9
      · refine ja_aload_n K 0 dX1_isTaken_16 rfl ?_
        refine ja_get K hu9 0 rfl rfl 6 (by decide) (List.mem_cons_of_mem _ kfX1_20) rfl rfl dX1_isTaken_17 ?_
        refine ja_iload_n K 3 dX1_isTaken_20 rfl ?_
        refine ja_iald K (v := nI ((jP S (i)))) 4 0 rfl rfl (i) rfl (by omega) (by decide) (rP _ (by omega)) dX1_isTaken_21 ?_
        refine ja_iload_n K 1 dX1_isTaken_22 rfl ?_
        refine ja_icmp_ne K (tgt := 30) (¬ (jP S (i)) = x) dX1_isTaken_23 (by decide) (not_congr (nI_eq (by omega) (by omega))) (fun h23 => ?_) (fun h23 => ?_)
        · refine ja_iconst K (nI 0) dX1_isTaken_30 (by decide) ?_
          refine ja_istore_n K (lv1 := [(0, .ref (q 0)), (1, .int (nI (x))), (2, .int (nI 0)), (3, .int (nI (i)))]) dX1_isTaken_31 (by decide) rfl rfl ?_
          refine ja_iinc K (lv1 := [(0, .ref (q 0)), (1, .int (nI (x))), (2, .int (nI 0)), (3, .int (nI ((i + 1))))]) 3 (nI ((i + 1))) dX1_isTaken_32 rfl (ja_inc _) (by decide) rfl rfl ?_
          refine ja_goto K (tgt := 4) dX1_isTaken_35 (by decide) ?_
          have e90 : jbI (jany (fun j => jP S j == x) (i + 1)) = nI 0 := by first | exact jb1 (by simp [jany, h9, h13, h23]) | exact jb0 (by simp [jany, h9, h13, h23])
          have k9 := IH4 (i + 1) (by omega) (by omega)
          rw [e90] at k9
          exact k9
        · replace h23 := Classical.not_not.mp h23
          refine ja_iconst K (nI 1) dX1_isTaken_26 (by decide) ?_
          refine ja_goto K (tgt := 31) dX1_isTaken_27 (by decide) ?_
          refine ja_istore_n K (lv1 := [(0, .ref (q 0)), (1, .int (nI (x))), (2, .int (nI 1)), (3, .int (nI (i)))]) dX1_isTaken_31 (by decide) rfl rfl ?_
          refine ja_iinc K (lv1 := [(0, .ref (q 0)), (1, .int (nI (x))), (2, .int (nI 1)), (3, .int (nI ((i + 1))))]) 3 (nI ((i + 1))) dX1_isTaken_32 rfl (ja_inc _) (by decide) rfl rfl ?_
          refine ja_goto K (tgt := 4) dX1_isTaken_35 (by decide) ?_
          have e90 : jbI (jany (fun j => jP S j == x) (i + 1)) = nI 1 := by first | exact jb1 (by simp [jany, h9, h13, h23]) | exact jb0 (by simp [jany, h9, h13, h23])
          have k9 := IH4 (i + 1) (by omega) (by omega)
          rw [e90] at k9
          exact k9
  have k9 := L4 0 (Nat.zero_le _)
  rw [show jbI (jany (fun j => jP S j == x) 0) = nI 0 from jb0 rfl] at k9
  exact k9
