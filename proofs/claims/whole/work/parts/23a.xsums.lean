set_option maxRecDepth 100000 in
set_option maxHeartbeats 4000000 in
theorem jc_countLiveChildren (l : Launch) (D : va_G) (q : Nat → Nat) (cI cZ : ClassId) (S : JS) (u : JX) (hW9 : jWf S) (hS9 : jxR1 S u) (x p0 : Nat) (hx : x < 60) (hp : p0 < 14) (hC : ∀ c, c < 14 → jxC u c = nI (jundS S x c)) : jkI l yX0_countLiveChildren wsX0_countLiveChildren ({ frames := 1, cells := 0, slots := 0, locals := 22 }) D vwCl (jxt cI cZ) (jxc q cI cZ) [.ref (q 0), .int (nI x), .int (nI p0)] (jxc q cI cZ u) (fun r u1 => nI (jfork (jN S) (jM S) (jU S x) p0) = r ∧ u = u1) := by
  refine jkI_of (cc := cX0_countLiveChildren) (maxL := 5) (ret := (some .int)) (by decide) rfl (Nat.le_of_ble_eq_true rfl) ?_
  intro p e R s m args below meth c Q A K hn9 hR9 hQ9
  obtain ⟨rN, rT, rM, rU, rK, rP, rA, rL, rB⟩ := id hS9
  obtain ⟨wn, wt, wu, wk, wp, wl, wb⟩ := id hW9
  have hu9 : ∀ w ∈ u_ws RX0 TX0 13, w ∈ wsX0_countLiveChildren := fun w h => List.mem_cons_of_mem _ (ku_X0 w h)
  show jaW p l e R s m args below meth c 0 0 Q D vwCl A 5 (jxc q cI cZ u) [(0, .ref (q 0)), (1, .int (nI (x))), (2, .int (nI (p0)))] 0 []
  refine ja_iconst K (nI 0) dX0_countLiveChildren_0 (by decide) ?_
  refine ja_istore_n K (lv1 := [(0, .ref (q 0)), (1, .int (nI (x))), (2, .int (nI (p0))), (3, .int (nI 0))]) dX0_countLiveChildren_1 (by decide) rfl rfl ?_
  refine ja_iconst K (nI 0) dX0_countLiveChildren_2 (by decide) ?_
  refine ja_istore K (lv1 := [(0, .ref (q 0)), (1, .int (nI (x))), (2, .int (nI (p0))), (3, .int (nI 0)), (4, .int (nI 0))]) dX0_countLiveChildren_3 (by decide) rfl rfl ?_
  have L5 : ∀ (i : Nat), (i ≤ jN S) → jaW p l e R s m args below meth c 0 0 Q D vwCl A 5 (jxc q cI cZ u) [(0, .ref (q 0)), (1, .int (nI (x))), (2, .int (nI (p0))), (3, .int (nI ((jct (fun c1 => jU S x c1 == some p0 && decide (0 < jundS S x c1)) i)))), (4, .int (nI (i)))] 5 [] := by
    refine jl_1 (fun (i : Nat) => jN S - i) (fun (i : Nat) => i ≤ jN S) _ ?_
    intro i hI5 IH5
    refine ja_iload K 4 dX0_countLiveChildren_5 rfl ?_
    refine ja_aload_n K 0 dX0_countLiveChildren_7 rfl ?_
    refine ja_get K hu9 0 rfl rfl 0 (by decide) (List.mem_cons_of_mem _ kfX0_7) rfl (congrArg (fun z9 => some (Value.int z9)) rN) dX0_countLiveChildren_8 ?_
    refine ja_icmp_ge K (tgt := 44) ((jN S) ≤ i) dX0_countLiveChildren_11 (by decide) (nI_leI (by omega) (by omega)) (fun h11 => ?_) (fun h11 => ?_)
    · refine ja_iload_n K 3 dX0_countLiveChildren_44 rfl ?_
      exact ja_iret K (u) rfl (Nat.zero_le _) (Nat.zero_le _) dX0_countLiveChildren_45 hQ9 rfl ⟨by rw [show i = jN S by omega]; rfl, rfl⟩
    · have b9 := jund_le S x i
      refine ja_aload_n K 0 dX0_countLiveChildren_14 rfl ?_
      refine ja_iload_n K 1 dX0_countLiveChildren_15 rfl ?_
      refine ja_iload K 4 dX0_countLiveChildren_16 rfl ?_
      refine ja_callVI K (q0 := 0) (qc := (RX0, TX0, 13)) (st := []) [.int (nI (x)), .int (nI (i))] (jc_parentAt l D q cI cZ (u) (x) (i) (by omega) (by omega) (jU S (x) (i)) (rU _ _ (by omega) (by omega))) (cwV 2 K.1.2.2.2.2 (gX0_X0_parentAt _) rfl rfl rfl (by decide +kernel) (by rw [hR9]; exact ⟨Nat.le_of_ble_eq_true rfl, Nat.le_of_ble_eq_true rfl⟩)) rfl rfl rfl rfl rfl (Nat.le_of_ble_eq_true rfl) dX0_countLiveChildren_18 (by rw [hR9]; exact ⟨Nat.le_of_ble_eq_true rfl, Nat.le_of_ble_eq_true rfl⟩) (fun r9 u9 h9 => ?_)
      obtain ⟨rfl, rfl⟩ := h9
      refine ja_iload_n K 2 dX0_countLiveChildren_21 rfl ?_
      refine ja_icmp_ne K (tgt := 38) (¬ jU S (x) (i) = some (p0)) dX0_countLiveChildren_22 (by decide) (not_congr (jeI_inj (o := jU S (x) (i)) (o' := some (p0)) (fun p9 h9 => by have := (wu _ _ _ h9).2.1; omega) (fun p9 h9 => by cases h9; omega))) (fun h22 => ?_) (fun h22 => ?_)
      · refine ja_iinc K (lv1 := [(0, .ref (q 0)), (1, .int (nI (x))), (2, .int (nI (p0))), (3, .int (nI ((jct (fun c1 => jU S x c1 == some p0 && decide (0 < jundS S x c1)) i)))), (4, .int (nI ((i + 1))))]) 4 (nI ((i + 1))) dX0_countLiveChildren_38 rfl (ja_inc _) (by decide) rfl rfl ?_
        refine ja_goto K (tgt := 5) dX0_countLiveChildren_41 (by decide) ?_
        have e90 : jct (fun c1 => jU S x c1 == some p0 && decide (0 < jundS S x c1)) (i + 1) = (jct (fun c1 => jU S x c1 == some p0 && decide (0 < jundS S x c1)) i) := by simp [jct, h11, h22]
        have k9 := IH5 (i + 1) (by omega) (by omega)
        rw [e90] at k9
        exact k9
      · refine ja_aload_n K 0 dX0_countLiveChildren_25 rfl ?_
        refine ja_get K hu9 0 rfl rfl 9 (by decide) (List.mem_cons_of_mem _ kfX0_39) rfl rfl dX0_countLiveChildren_26 ?_
        refine ja_iload K 4 dX0_countLiveChildren_29 rfl ?_
        refine ja_iald K (v := nI ((jundS S x i))) 8 0 rfl rfl (i) rfl (by omega) (by decide) (hC _ (by omega)) dX0_countLiveChildren_31 ?_
        refine ja_if_le K (tgt := 38) ((jundS S x i) ≤ 0) dX0_countLiveChildren_32 (by decide) (jz_le (by omega)) (fun h32 => ?_) (fun h32 => ?_)
        · have z32 : jundS S x i = 0 := by omega
          refine ja_iinc K (lv1 := [(0, .ref (q 0)), (1, .int (nI (x))), (2, .int (nI (p0))), (3, .int (nI ((jct (fun c1 => jU S x c1 == some p0 && decide (0 < jundS S x c1)) i)))), (4, .int (nI ((i + 1))))]) 4 (nI ((i + 1))) dX0_countLiveChildren_38 rfl (ja_inc _) (by decide) rfl rfl ?_
          refine ja_goto K (tgt := 5) dX0_countLiveChildren_41 (by decide) ?_
          have e90 : jct (fun c1 => jU S x c1 == some p0 && decide (0 < jundS S x c1)) (i + 1) = (jct (fun c1 => jU S x c1 == some p0 && decide (0 < jundS S x c1)) i) := by simp [jct, h11, h22, h32, z32]
          have k9 := IH5 (i + 1) (by omega) (by omega)
          rw [e90] at k9
          exact k9
        · have z32 : 0 < jundS S x i := by omega
          refine ja_iinc K (lv1 := [(0, .ref (q 0)), (1, .int (nI (x))), (2, .int (nI (p0))), (3, .int (nI (((jct (fun c1 => jU S x c1 == some p0 && decide (0 < jundS S x c1)) i) + 1)))), (4, .int (nI (i)))]) 3 (nI (((jct (fun c1 => jU S x c1 == some p0 && decide (0 < jundS S x c1)) i) + 1))) dX0_countLiveChildren_35 rfl (ja_inc _) (by decide) rfl rfl ?_
          refine ja_iinc K (lv1 := [(0, .ref (q 0)), (1, .int (nI (x))), (2, .int (nI (p0))), (3, .int (nI (((jct (fun c1 => jU S x c1 == some p0 && decide (0 < jundS S x c1)) i) + 1)))), (4, .int (nI ((i + 1))))]) 4 (nI ((i + 1))) dX0_countLiveChildren_38 rfl (ja_inc _) (by decide) rfl rfl ?_
          refine ja_goto K (tgt := 5) dX0_countLiveChildren_41 (by decide) ?_
          have e90 : jct (fun c1 => jU S x c1 == some p0 && decide (0 < jundS S x c1)) (i + 1) = ((jct (fun c1 => jU S x c1 == some p0 && decide (0 < jundS S x c1)) i) + 1) := by simp [jct, h11, h22, h32, z32]
          have k9 := IH5 (i + 1) (by omega) (by omega)
          rw [e90] at k9
          exact k9
  exact L5 0 (Nat.zero_le _)
