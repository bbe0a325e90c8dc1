set_option maxRecDepth 100000 in
set_option maxHeartbeats 4000000 in
theorem jd_differs (l : Launch) (D : va_G) (q : Nat → Nat) (cI cZ : ClassId) (S : JS) (u : JM) (hW9 : jWf S) (hS9 : jmR1 S u) (x : Nat) (hx : x < 60) (h0 : 0 < x) : jkI l yX1_differs wsX1_differs ({ frames := 1, cells := 0, slots := 0, locals := 22 }) D vwCl (jxt cI cZ) (jmc q cI cZ) [.ref (q 0), .int (nI x)] (jmc q cI cZ u) (fun r u1 => jbI (jany (fun c1 => jU S x c1 != jU S (x - 1) c1) (jN S)) = r ∧ u = u1) := by
  refine jkI_of (cc := cX1_differs) (maxL := 4) (ret := (some .boolean)) (by decide) rfl (Nat.le_of_ble_eq_true rfl) ?_
  intro p e R s m args below meth c Q A K hn9 hR9 hQ9
  obtain ⟨rN, rT, rM, rU, rK, rP, rA, rL, rB⟩ := id hS9
  obtain ⟨wn, wt, wu, wk, wp, wl, wb⟩ := id hW9
  have hu9 : ∀ w ∈ u_ws RX1 TX1 16, w ∈ wsX1_differs := fun w h => List.mem_cons_of_mem _ (ku_X1 w h)
  show jaW p l e R s m args below meth c 0 0 Q D vwCl A 4 (jmc q cI cZ u) [(0, .ref (q 0)), (1, .int (nI (x)))] 0 []
  refine ja_iconst K (nI 0) dX1_differs_0 (by decide) ?_
  refine ja_istore_n K (lv1 := [(0, .ref (q 0)), (1, .int (nI (x))), (2, .int (nI 0))]) dX1_differs_1 (by decide) rfl rfl ?_
  refine ja_iconst K (nI 0) dX1_differs_2 (by decide) ?_
  refine ja_istore_n K (lv1 := [(0, .ref (q 0)), (1, .int (nI (x))), (2, .int (nI 0)), (3, .int (nI 0))]) dX1_differs_3 (by decide) rfl rfl ?_
  have L4 : ∀ (i : Nat), (i ≤ jN S) → jaW p l e R s m args below meth c 0 0 Q D vwCl A 4 (jmc q cI cZ u) [(0, .ref (q 0)), (1, .int (nI (x))), (2, .int (jbI (jany (fun c1 => jU S x c1 != jU S (x - 1) c1) i))), (3, .int (nI (i)))] 4 [] := by
    refine jl_1 (fun (i : Nat) => jN S - i) (fun (i : Nat) => i ≤ jN S) _ ?_
    intro i hI4 IH4
    refine ja_iload_n K 3 dX1_differs_4 rfl ?_
    refine ja_aload_n K 0 dX1_differs_5 rfl ?_
    refine ja_get K hu9 0 rfl rfl 1 (by decide) (List.mem_cons_of_mem _ kfX1_42) rfl (congrArg (fun z9 => some (Value.int z9)) rN) dX1_differs_6 ?_
    refine ja_icmp_ge K (tgt := 45) ((jN S) ≤ i) dX1_differs_9 (by decide) (nI_leI (by omega) (by omega)) (fun h9 => ?_) (fun h9 => ?_)
    · refine ja_iload_n K 2 dX1_differs_45 rfl ?_
      exact ja_zret K (u) rfl (by first | exact ja_nz1 | exact ja_nz0 | exact jbI_narrow _) (Nat.zero_le _) (Nat.zero_le _) dX1_differs_46 hQ9 rfl ⟨by rw [show i = jN S by omega], rfl⟩
    · refine ja_iload_n K 2 dX1_differs_12 rfl ?_
      refine ja_if_ne K (tgt := 33) (jany (fun c1 => jU S x c1 != jU S (x - 1) c1) i = true) dX1_differs_13 (by decide) (jbI_nz _) (fun h13 => ?_) (fun h13 => ?_)
      · refine ja_iconst K (nI 1) dX1_differs_33 (by decide) ?_
        refine ja_goto K (tgt := 38) dX1_differs_34 (by decide) ?_
        refine ja_istore_n K (lv1 := [(0, .ref (q 0)), (1, .int (nI (x))), (2, .int (nI 1)), (3, .int (nI (i)))]) dX1_differs_38 (by decide) rfl rfl ?_
        refine ja_iinc K (lv1 := [(0, .ref (q 0)), (1, .int (nI (x))), (2, .int (nI 1)), (3, .int (nI ((i + 1))))]) 3 (nI ((i + 1))) dX1_differs_39 rfl (ja_inc _) (by decide) rfl rfl ?_
        refine ja_goto K (tgt := 4) dX1_differs_42 (by decide) ?_
        have e90 : jbI (jany (fun c1 => jU S x c1 != jU S (x - 1) c1) (i + 1)) = nI 1 := by first | exact jb1 (by simp [jany, h9, h13]) | exact jb0 (by simp [jany, h9, h13])
        have k9 := IH4 (i + 1) (by omega) (by omega)
        rw [e90] at k9
        exact k9
      · refine ja_aload_n K 0 dX1_differs_16 rfl ?_
        refine ja_iload_n K 3 dX1_differs_17 rfl ?_
        refine ja_iload_n K 1 dX1_differs_18 rfl ?_
        refine ja_callVI K (q0 := 0) (qc := (RX1, TX1, 16)) (st := []) [.int (nI (i)), .int (nI (x))] (jd_up l D q cI cZ (u) (i) (x) (by omega) (by omega) (jU S (x) (i)) (rU (x) (i) (by omega) (by omega))) (cwV 2 K.1.2.2.2.2 (gX1_X1_up _) rfl rfl rfl (by decide +kernel) (by rw [hR9]; exact ⟨Nat.le_of_ble_eq_true rfl, Nat.le_of_ble_eq_true rfl⟩)) rfl rfl rfl rfl rfl (Nat.le_of_ble_eq_true rfl) dX1_differs_19 (by rw [hR9]; exact ⟨Nat.le_of_ble_eq_true rfl, Nat.le_of_ble_eq_true rfl⟩) (fun r9 u9 h9 => ?_)
        obtain ⟨rfl, rfl⟩ := h9
        refine ja_aload_n K 0 dX1_differs_22 rfl ?_
        refine ja_iload_n K 3 dX1_differs_23 rfl ?_
        refine ja_iload_n K 1 dX1_differs_24 rfl ?_
        refine ja_iconst K (nI 1) dX1_differs_25 (by decide) ?_
        refine ja_isub K (nI ((x - 1))) dX1_differs_26 (pk_sub (by omega)) ?_
        refine ja_callVI K (q0 := 0) (qc := (RX1, TX1, 16)) (st := [.int (jeI (jU S (x) (i)))]) [.int (nI (i)), .int (nI ((x - 1)))] (jd_up l D q cI cZ (u) (i) ((x - 1)) (by omega) (by omega) (jU S ((x - 1)) (i)) (rU ((x - 1)) (i) (by omega) (by omega))) (cwV 2 K.1.2.2.2.2 (gX1_X1_up _) rfl rfl rfl (by decide +kernel) (by rw [hR9]; exact ⟨Nat.le_of_ble_eq_true rfl, Nat.le_of_ble_eq_true rfl⟩)) rfl rfl rfl rfl rfl (Nat.le_of_ble_eq_true rfl) dX1_differs_27 (by rw [hR9]; exact ⟨Nat.le_of_ble_eq_true rfl, Nat.le_of_ble_eq_true rfl⟩) (fun r9 u9 h9 => ?_)
        obtain ⟨rfl, rfl⟩ := h9
        refine ja_icmp_eq K (tgt := 37) (jU S (x) (i) = jU S ((x - 1)) (i)) dX1_differs_30 (by decide) (jeI_inj (o := jU S (x) (i)) (o' := jU S ((x - 1)) (i)) (fun p9 h9 => by have := (wu _ _ _ h9).2.1; omega) (fun p9 h9 => by have := (wu _ _ _ h9).2.1; omega)) (fun h30 => ?_) (fun h30 => ?_)
        · refine ja_iconst K (nI 0) dX1_differs_37 (by decide) ?_
          refine ja_istore_n K (lv1 := [(0, .ref (q 0)), (1, .int (nI (x))), (2, .int (nI 0)), (3, .int (nI (i)))]) dX1_differs_38 (by decide) rfl rfl ?_
          refine ja_iinc K (lv1 := [(0, .ref (q 0)), (1, .int (nI (x))), (2, .int (nI 0)), (3, .int (nI ((i + 1))))]) 3 (nI ((i + 1))) dX1_differs_39 rfl (ja_inc _) (by decide) rfl rfl ?_
          refine ja_goto K (tgt := 4) dX1_differs_42 (by decide) ?_
          have e90 : jbI (jany (fun c1 => jU S x c1 != jU S (x - 1) c1) (i + 1)) = nI 0 := by first | exact jb1 (by simp [jany, h9, h13, h30]) | exact jb0 (by simp [jany, h9, h13, h30])
          have k9 := IH4 (i + 1) (by omega) (by omega)
          rw [e90] at k9
          exact k9
        · refine ja_iconst K (nI 1) dX1_differs_33 (by decide) ?_
          refine ja_goto K (tgt := 38) dX1_differs_34 (by decide) ?_
          refine ja_istore_n K (lv1 := [(0, .ref (q 0)), (1, .int (nI (x))), (2, .int (nI 1)), (3, .int (nI (i)))]) dX1_differs_38 (by decide) rfl rfl ?_
          refine ja_iinc K (lv1 := [(0, .ref (q 0)), (1, .int (nI (x))), (2, .int (nI 1)), (3, .int (nI ((i + 1))))]) 3 (nI ((i + 1))) dX1_differs_39 rfl (ja_inc _) (by decide) rfl rfl ?_
          refine ja_goto K (tgt := 4) dX1_differs_42 (by decide) ?_
          have e90 : jbI (jany (fun c1 => jU S x c1 != jU S (x - 1) c1) (i + 1)) = nI 1 := by first | exact jb1 (by simp [jany, h9, h13, h30]) | exact jb0 (by simp [jany, h9, h13, h30])
          have k9 := IH4 (i + 1) (by omega) (by omega)
          rw [e90] at k9
          exact k9
  have k9 := L4 0 (Nat.zero_le _)
  rw [show jbI (jany (fun c1 => jU S x c1 != jU S (x - 1) c1) 0) = nI 0 from jb0 rfl] at k9
  exact k9
