set_option maxRecDepth 100000 in
set_option maxHeartbeats 4000000 in
theorem jd_under (l : Launch) (D : va_G) (q : Nat → Nat) (cI cZ : ClassId) (S : JS) (u : JM) (hW9 : jWf S) (hS9 : jmR1 S u) (c0 x : Nat) (hc : c0 < jN S) (hx : x < 60) : jkI l yX1_under wsX1_under ({ frames := 2, cells := 0, slots := 0, locals := 46 }) D vwCl (jxt cI cZ) (jmc q cI cZ) [.ref (q 0), .int (nI c0), .int (nI x)] (jmc q cI cZ u) (fun r u1 => nI (jundS S x c0) = r ∧ u = u1) := by
  refine jkI_of (cc := cX1_under) (maxL := 5) (ret := (some .int)) (by decide) rfl (Nat.le_of_ble_eq_true rfl) ?_
  intro p e R s m args below meth c Q A K hn9 hR9 hQ9
  obtain ⟨rN, rT, rM, rU, rK, rP, rA, rL, rB⟩ := id hS9
  obtain ⟨wn, wt, wu, wk, wp, wl, wb⟩ := id hW9
  have hu9 : ∀ w ∈ u_ws RX1 TX1 16, w ∈ wsX1_under := fun w h => List.mem_cons_of_mem _ (ku_X1 w h)
  show jaW p l e R s m args below meth c 0 0 Q D vwCl A 5 (jmc q cI cZ u) [(0, .ref (q 0)), (1, .int (nI (c0))), (2, .int (nI (x)))] 0 []
  refine ja_iconst K (nI 0) dX1_under_0 (by decide) ?_
  refine ja_istore_n K (lv1 := [(0, .ref (q 0)), (1, .int (nI (c0))), (2, .int (nI (x))), (3, .int (nI 0))]) dX1_under_1 (by decide) rfl rfl ?_
  refine ja_iconst K (nI 0) dX1_under_2 (by decide) ?_
  refine ja_istore K (lv1 := [(0, .ref (q 0)), (1, .int (nI (c0))), (2, .int (nI (x))), (3, .int (nI 0)), (4, .int (nI 0))]) dX1_under_3 (by decide) rfl rfl ?_
  have L5 : ∀ (i : Nat), (i ≤ jN S) → jaW p l e R s m args below meth c 0 0 Q D vwCl A 5 (jmc q cI cZ u) [(0, .ref (q 0)), (1, .int (nI (c0))), (2, .int (nI (x))), (3, .int (nI ((jct (fun c1 => jM S c1 && jhold (jU S x) c0 c1) i)))), (4, .int (nI (i)))] 5 [] := by
    refine jl_1 (fun (i : Nat) => jN S - i) (fun (i : Nat) => i ≤ jN S) _ ?_
    intro i hI5 IH5
    refine ja_iload K 4 dX1_under_5 rfl ?_
    refine ja_aload_n K 0 dX1_under_7 rfl ?_
    refine ja_get K hu9 0 rfl rfl 1 (by decide) (List.mem_cons_of_mem _ kfX1_42) rfl (congrArg (fun z9 => some (Value.int z9)) rN) dX1_under_8 ?_
    refine ja_icmp_ge K (tgt := 49) ((jN S) ≤ i) dX1_under_11 (by decide) (nI_leI (by omega) (by omega)) (fun h11 => ?_) (fun h11 => ?_)
    · refine ja_iload_n K 3 dX1_under_49 rfl ?_
      exact ja_iret K (u) rfl (Nat.zero_le _) (Nat.zero_le _) dX1_under_50 hQ9 rfl ⟨by rw [show i = jN S by omega]; rfl, rfl⟩
    · refine ja_aload_n K 0 dX1_under_14 rfl ?_
      refine ja_get K hu9 0 rfl rfl 3 (by decide) (List.mem_cons_of_mem _ kfX1_13) rfl rfl dX1_under_15 ?_
      refine ja_iload K 4 dX1_under_18 rfl ?_
      refine ja_zald K (v := jbI (jM S (i))) 2 1 rfl rfl (i) rfl (by omega) (by decide) (rM _ (by omega)) dX1_under_20 ?_
      refine ja_if_eq K (tgt := 41) (jM S (i) = false) dX1_under_21 (by decide) (jbI_ne _) (fun h21 => ?_) (fun h21 => ?_)
      · refine ja_iload_n K 3 dX1_under_41 rfl ?_
        refine ja_istore_n K (lv1 := [(0, .ref (q 0)), (1, .int (nI (c0))), (2, .int (nI (x))), (3, .int (nI ((jct (fun c1 => jM S c1 && jhold (jU S x) c0 c1) i)))), (4, .int (nI (i)))]) dX1_under_42 (by decide) rfl rfl ?_
        refine ja_iinc K (lv1 := [(0, .ref (q 0)), (1, .int (nI (c0))), (2, .int (nI (x))), (3, .int (nI ((jct (fun c1 => jM S c1 && jhold (jU S x) c0 c1) i)))), (4, .int (nI ((i + 1))))]) 4 (nI ((i + 1))) dX1_under_43 rfl (ja_inc _) (by decide) rfl rfl ?_
        refine ja_goto K (tgt := 5) dX1_under_46 (by decide) ?_
        have e90 : jct (fun c1 => jM S c1 && jhold (jU S x) c0 c1) (i + 1) = (jct (fun c1 => jM S c1 && jhold (jU S x) c0 c1) i) := by simp [jct, h11, h21]
        have k9 := IH5 (i + 1) (by omega) (by omega)
        rw [e90] at k9
        exact k9
      · refine ja_aload_n K 0 dX1_under_24 rfl ?_
        refine ja_iload_n K 1 dX1_under_25 rfl ?_
        refine ja_iload K 4 dX1_under_26 rfl ?_
        refine ja_iload_n K 2 dX1_under_28 rfl ?_
        refine ja_callVI K (q0 := 0) (qc := (RX1, TX1, 16)) (st := []) [.int (nI (c0)), .int (nI (i)), .int (nI (x))] (jd_holds l D q cI cZ S (u) hW9 hS9 (c0) (i) (x) (by omega) (by omega) (by omega)) (cwV 3 K.1.2.2.2.2 (gX1_X1_holds _) rfl rfl rfl (by decide +kernel) (by rw [hR9]; exact ⟨Nat.le_of_ble_eq_true rfl, Nat.le_of_ble_eq_true rfl⟩)) rfl rfl rfl rfl rfl (Nat.le_of_ble_eq_true rfl) dX1_under_29 (by rw [hR9]; exact ⟨Nat.le_of_ble_eq_true rfl, Nat.le_of_ble_eq_true rfl⟩) (fun r9 u9 h9 => ?_)
        obtain ⟨rfl, rfl⟩ := h9
        refine ja_if_eq K (tgt := 41) (jhold (jU S (x)) (c0) (i) = false) dX1_under_32 (by decide) (jbI_ne _) (fun h32 => ?_) (fun h32 => ?_)
        · refine ja_iload_n K 3 dX1_under_41 rfl ?_
          refine ja_istore_n K (lv1 := [(0, .ref (q 0)), (1, .int (nI (c0))), (2, .int (nI (x))), (3, .int (nI ((jct (fun c1 => jM S c1 && jhold (jU S x) c0 c1) i)))), (4, .int (nI (i)))]) dX1_under_42 (by decide) rfl rfl ?_
          refine ja_iinc K (lv1 := [(0, .ref (q 0)), (1, .int (nI (c0))), (2, .int (nI (x))), (3, .int (nI ((jct (fun c1 => jM S c1 && jhold (jU S x) c0 c1) i)))), (4, .int (nI ((i + 1))))]) 4 (nI ((i + 1))) dX1_under_43 rfl (ja_inc _) (by decide) rfl rfl ?_
          refine ja_goto K (tgt := 5) dX1_under_46 (by decide) ?_
          have e90 : jct (fun c1 => jM S c1 && jhold (jU S x) c0 c1) (i + 1) = (jct (fun c1 => jM S c1 && jhold (jU S x) c0 c1) i) := by simp [jct, h11, h21, h32]
          have k9 := IH5 (i + 1) (by omega) (by omega)
          rw [e90] at k9
          exact k9
        · refine ja_iload_n K 3 dX1_under_35 rfl ?_
          refine ja_iconst K (nI 1) dX1_under_36 (by decide) ?_
          refine ja_iadd K (nI (((jct (fun c1 => jM S c1 && jhold (jU S x) c0 c1) i) + 1))) dX1_under_37 (nI_add _ _) ?_
          refine ja_goto K (tgt := 42) dX1_under_38 (by decide) ?_
          refine ja_istore_n K (lv1 := [(0, .ref (q 0)), (1, .int (nI (c0))), (2, .int (nI (x))), (3, .int (nI (((jct (fun c1 => jM S c1 && jhold (jU S x) c0 c1) i) + 1)))), (4, .int (nI (i)))]) dX1_under_42 (by decide) rfl rfl ?_
          refine ja_iinc K (lv1 := [(0, .ref (q 0)), (1, .int (nI (c0))), (2, .int (nI (x))), (3, .int (nI (((jct (fun c1 => jM S c1 && jhold (jU S x) c0 c1) i) + 1)))), (4, .int (nI ((i + 1))))]) 4 (nI ((i + 1))) dX1_under_43 rfl (ja_inc _) (by decide) rfl rfl ?_
          refine ja_goto K (tgt := 5) dX1_under_46 (by decide) ?_
          have e90 : jct (fun c1 => jM S c1 && jhold (jU S x) c0 c1) (i + 1) = ((jct (fun c1 => jM S c1 && jhold (jU S x) c0 c1) i) + 1) := by simp [jct, h11, h21, h32]
          have k9 := IH5 (i + 1) (by omega) (by omega)
          rw [e90] at k9
          exact k9
  exact L5 0 (Nat.zero_le _)
