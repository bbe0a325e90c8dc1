set_option maxRecDepth 100000 in
set_option maxHeartbeats 4000000 in
theorem jd_isFork (l : Launch) (D : va_G) (q : Nat → Nat) (cI cZ : ClassId) (S : JS) (u : JM) (hW9 : jWf S) (hS9 : jmR1 S u) (p0 x : Nat) (hp : p0 < 14) (hx : x < 60) : jkI l yX1_isFork wsX1_isFork ({ frames := 3, cells := 0, slots := 0, locals := 70 }) D vwCl (jxt cI cZ) (jmc q cI cZ) [.ref (q 0), .int (nI p0), .int (nI x)] (jmc q cI cZ u) (fun r u1 => jbI (decide (1 < jfork (jN S) (jM S) (jU S x) p0)) = r ∧ u = u1) := by
  refine jkI_of (cc := cX1_isFork) (maxL := 5) (ret := (some .boolean)) (by decide) rfl (Nat.le_of_ble_eq_true rfl) ?_
  intro p e R s m args below meth c Q A K hn9 hR9 hQ9
  obtain ⟨rN, rT, rM, rU, rK, rP, rA, rL, rB⟩ := id hS9
  obtain ⟨wn, wt, wu, wk, wp, wl, wb⟩ := id hW9
  have hu9 : ∀ w ∈ u_ws RX1 TX1 16, w ∈ wsX1_isFork := fun w h => List.mem_cons_of_mem _ (ku_X1 w h)
  show jaW p l e R s m args below meth c 0 0 Q D vwCl A 5 (jmc q cI cZ u) [(0, .ref (q 0)), (1, .int (nI (p0))), (2, .int (nI (x)))] 0 []
  refine ja_iconst K (nI 0) dX1_isFork_0 (by decide) ?_
  refine ja_istore_n K (lv1 := [(0, .ref (q 0)), (1, .int (nI (p0))), (2, .int (nI (x))), (3, .int (nI 0))]) dX1_isFork_1 (by decide) rfl rfl ?_
  refine ja_iconst K (nI 0) dX1_isFork_2 (by decide) ?_
  refine ja_istore K (lv1 := [(0, .ref (q 0)), (1, .int (nI (p0))), (2, .int (nI (x))), (3, .int (nI 0)), (4, .int (nI 0))]) dX1_isFork_3 (by decide) rfl rfl ?_
  have L5 : ∀ (i : Nat), (i ≤ jN S) → jaW p l e R s m args below meth c 0 0 Q D vwCl A 5 (jmc q cI cZ u) [(0, .ref (q 0)), (1, .int (nI (p0))), (2, .int (nI (x))), (3, .int (nI ((jct (fun c1 => jU S x c1 == some p0 && decide (0 < jundS S x c1)) i)))), (4, .int (nI (i)))] 5 [] := by
    refine jl_1 (fun (i : Nat) => jN S - i) (fun (i : Nat) => i ≤ jN S) _ ?_
    intro i hI5 IH5
    refine ja_iload K 4 dX1_isFork_5 rfl ?_
    refine ja_aload_n K 0 dX1_isFork_7 rfl ?_
    refine ja_get K hu9 0 rfl rfl 1 (by decide) (List.mem_cons_of_mem _ kfX1_42) rfl (congrArg (fun z9 => some (Value.int z9)) rN) dX1_isFork_8 ?_
    refine ja_icmp_ge K (tgt := 49) ((jN S) ≤ i) dX1_isFork_11 (by decide) (nI_leI (by omega) (by omega)) (fun h11 => ?_) (fun h11 => ?_)
    · have b8 := jct_le (fun c1 => jU S x c1 == some p0 && decide (0 < jundS S x c1)) i
      refine ja_iload_n K 3 dX1_isFork_49 rfl ?_
      refine ja_iconst K (nI 1) dX1_isFork_50 (by decide) ?_
      refine ja_icmp_le K (tgt := 58) ((jct (fun c1 => jU S x c1 == some p0 && decide (0 < jundS S x c1)) i) ≤ 1) dX1_isFork_51 (by decide) (nI_leI (by omega) (by omega)) (fun h51 => ?_) (fun h51 => ?_)
      · refine ja_iconst K (nI 0) dX1_isFork_58 (by decide) ?_
        exact ja_zret K (u) rfl (by first | exact ja_nz1 | exact ja_nz0 | exact jbI_narrow _) (Nat.zero_le _) (Nat.zero_le _) dX1_isFork_59 hQ9 rfl ⟨by first | exact jb1 (by rw [show jfork (jN S) (jM S) (jU S x) p0 = jct (fun c1 => jU S x c1 == some p0 && decide (0 < jundS S x c1)) i by rw [show i = jN S by omega]; rfl]; simp; omega) | exact jb0 (by rw [show jfork (jN S) (jM S) (jU S x) p0 = jct (fun c1 => jU S x c1 == some p0 && decide (0 < jundS S x c1)) i by rw [show i = jN S by omega]; rfl]; simp; omega), rfl⟩
      · refine ja_iconst K (nI 1) dX1_isFork_54 (by decide) ?_
        refine ja_goto K (tgt := 59) dX1_isFork_55 (by decide) ?_
        exact ja_zret K (u) rfl (by first | exact ja_nz1 | exact ja_nz0 | exact jbI_narrow _) (Nat.zero_le _) (Nat.zero_le _) dX1_isFork_59 hQ9 rfl ⟨by first | exact jb1 (by rw [show jfork (jN S) (jM S) (jU S x) p0 = jct (fun c1 => jU S x c1 == some p0 && decide (0 < jundS S x c1)) i by rw [show i = jN S by omega]; rfl]; simp; omega) | exact jb0 (by rw [show jfork (jN S) (jM S) (jU S x) p0 = jct (fun c1 => jU S x c1 == some p0 && decide (0 < jundS S x c1)) i by rw [show i = jN S by omega]; rfl]; simp; omega), rfl⟩
    · have b9 := jund_le S x i
      refine ja_aload_n K 0 dX1_isFork_14 rfl ?_
      refine ja_iload K 4 dX1_isFork_15 rfl ?_
      refine ja_iload_n K 2 dX1_isFork_17 rfl ?_
      refine ja_callVI K (q0 := 0) (qc := (RX1, TX1, 16)) (st := []) [.int (nI (i)), .int (nI (x))] (jd_up l D q cI cZ (u) (i) (x) (by omega) (by omega) (jU S (x) (i)) (rU (x) (i) (by omega) (by omega))) (cwV 2 K.1.2.2.2.2 (gX1_X1_up _) rfl rfl rfl (by decide +kernel) (by rw [hR9]; exact ⟨Nat.le_of_ble_eq_true rfl, Nat.le_of_ble_eq_true rfl⟩)) rfl rfl rfl rfl rfl (Nat.le_of_ble_eq_true rfl) dX1_isFork_18 (by rw [hR9]; exact ⟨Nat.le_of_ble_eq_true rfl, Nat.le_of_ble_eq_true rfl⟩) (fun r9 u9 h9 => ?_)
      obtain ⟨rfl, rfl⟩ := h9
      refine ja_iload_n K 1 dX1_isFork_21 rfl ?_
      refine ja_icmp_ne K (tgt := 41) (¬ jU S (x) (i) = some (p0)) dX1_isFork_22 (by decide) (not_congr (jeI_inj (o := jU S (x) (i)) (o' := some (p0)) (fun p9 h9 => by have := (wu _ _ _ h9).2.1; omega) (fun p9 h9 => by cases h9; omega))) (fun h22 => ?_) (fun h22 => ?_)
      · refine ja_iload_n K 3 dX1_isFork_41 rfl ?_
        refine ja_istore_n K (lv1 := [(0, .ref (q 0)), (1, .int (nI (p0))), (2, .int (nI (x))), (3, .int (nI ((jct (fun c1 => jU S x c1 == some p0 && decide (0 < jundS S x c1)) i)))), (4, .int (nI (i)))]) dX1_isFork_42 (by decide) rfl rfl ?_
        refine ja_iinc K (lv1 := [(0, .ref (q 0)), (1, .int (nI (p0))), (2, .int (nI (x))), (3, .int (nI ((jct (fun c1 => jU S x c1 == some p0 && decide (0 < jundS S x c1)) i)))), (4, .int (nI ((i + 1))))]) 4 (nI ((i + 1))) dX1_isFork_43 rfl (ja_inc _) (by decide) rfl rfl ?_
        refine ja_goto K (tgt := 5) dX1_isFork_46 (by decide) ?_
        have e90 : jct (fun c1 => jU S x c1 == some p0 && decide (0 < jundS S x c1)) (i + 1) = (jct (fun c1 => jU S x c1 == some p0 && decide (0 < jundS S x c1)) i) := by simp [jct, h11, h22]
        have k9 := IH5 (i + 1) (by omega) (by omega)
        rw [e90] at k9
        exact k9
      · replace h22 := Classical.not_not.mp h22
        refine ja_aload_n K 0 dX1_isFork_25 rfl ?_
        refine ja_iload K 4 dX1_isFork_26 rfl ?_
        refine ja_iload_n K 2 dX1_isFork_28 rfl ?_
        refine ja_callVI K (q0 := 0) (qc := (RX1, TX1, 16)) (st := []) [.int (nI (i)), .int (nI (x))] (jd_under l D q cI cZ S (u) hW9 hS9 (i) (x) (by omega) (by omega)) (cwV 2 K.1.2.2.2.2 (gX1_X1_under _) rfl rfl rfl (by decide +kernel) (by rw [hR9]; exact ⟨Nat.le_of_ble_eq_true rfl, Nat.le_of_ble_eq_true rfl⟩)) rfl rfl rfl rfl rfl (Nat.le_of_ble_eq_true rfl) dX1_isFork_29 (by rw [hR9]; exact ⟨Nat.le_of_ble_eq_true rfl, Nat.le_of_ble_eq_true rfl⟩) (fun r9 u9 h9 => ?_)
        obtain ⟨rfl, rfl⟩ := h9
        refine ja_if_le K (tgt := 41) ((jundS S (x) (i)) ≤ 0) dX1_isFork_32 (by decide) (jz_le (by omega)) (fun h32 => ?_) (fun h32 => ?_)
        · have z32 : jundS S x i = 0 := by omega
          refine ja_iload_n K 3 dX1_isFork_41 rfl ?_
          refine ja_istore_n K (lv1 := [(0, .ref (q 0)), (1, .int (nI (p0))), (2, .int (nI (x))), (3, .int (nI ((jct (fun c1 => jU S x c1 == some p0 && decide (0 < jundS S x c1)) i)))), (4, .int (nI (i)))]) dX1_isFork_42 (by decide) rfl rfl ?_
          refine ja_iinc K (lv1 := [(0, .ref (q 0)), (1, .int (nI (p0))), (2, .int (nI (x))), (3, .int (nI ((jct (fun c1 => jU S x c1 == some p0 && decide (0 < jundS S x c1)) i)))), (4, .int (nI ((i + 1))))]) 4 (nI ((i + 1))) dX1_isFork_43 rfl (ja_inc _) (by decide) rfl rfl ?_
          refine ja_goto K (tgt := 5) dX1_isFork_46 (by decide) ?_
          have e90 : jct (fun c1 => jU S x c1 == some p0 && decide (0 < jundS S x c1)) (i + 1) = (jct (fun c1 => jU S x c1 == some p0 && decide (0 < jundS S x c1)) i) := by simp [jct, h11, h22, h32, z32]
          have k9 := IH5 (i + 1) (by omega) (by omega)
          rw [e90] at k9
          exact k9
        · have z32 : 0 < jundS S x i := by omega
          refine ja_iload_n K 3 dX1_isFork_35 rfl ?_
          refine ja_iconst K (nI 1) dX1_isFork_36 (by decide) ?_
          refine ja_iadd K (nI (((jct (fun c1 => jU S x c1 == some p0 && decide (0 < jundS S x c1)) i) + 1))) dX1_isFork_37 (nI_add _ _) ?_
          refine ja_goto K (tgt := 42) dX1_isFork_38 (by decide) ?_
          refine ja_istore_n K (lv1 := [(0, .ref (q 0)), (1, .int (nI (p0))), (2, .int (nI (x))), (3, .int (nI (((jct (fun c1 => jU S x c1 == some p0 && decide (0 < jundS S x c1)) i) + 1)))), (4, .int (nI (i)))]) dX1_isFork_42 (by decide) rfl rfl ?_
          refine ja_iinc K (lv1 := [(0, .ref (q 0)), (1, .int (nI (p0))), (2, .int (nI (x))), (3, .int (nI (((jct (fun c1 => jU S x c1 == some p0 && decide (0 < jundS S x c1)) i) + 1)))), (4, .int (nI ((i + 1))))]) 4 (nI ((i + 1))) dX1_isFork_43 rfl (ja_inc _) (by decide) rfl rfl ?_
          refine ja_goto K (tgt := 5) dX1_isFork_46 (by decide) ?_
          have e90 : jct (fun c1 => jU S x c1 == some p0 && decide (0 < jundS S x c1)) (i + 1) = ((jct (fun c1 => jU S x c1 == some p0 && decide (0 < jundS S x c1)) i) + 1) := by simp [jct, h11, h22, h32, z32]
          have k9 := IH5 (i + 1) (by omega) (by omega)
          rw [e90] at k9
          exact k9
  exact L5 0 (Nat.zero_le _)
