set_option maxRecDepth 100000 in
set_option maxHeartbeats 4000000 in
theorem jc_moveNodes (l : Launch) (D : va_G) (q : Nat → Nat) (cI cZ : ClassId) (S : JS) (u : JX) (hW9 : jWf S)   (k9 x9 : Nat) (hS9 : jxPh S k9 x9 u) : jkV l yX0_moveNodes wsX0_moveNodes ({ frames := 0, cells := 0, slots := 0, locals := 0 }) D vwCl (jxt cI cZ) (jxc q cI cZ) [.ref (q 0)] (jxc q cI cZ u) (fun u1 => ∃ ta sa, u1 = jxsM (jxsT u ta) sa ∧ jxPn S (jN S) (jxsM (jxsT u ta) sa)) := by
  refine jkV_of (cc := cX0_moveNodes) (maxL := 3) (ret := none) (by decide) rfl (Nat.le_of_ble_eq_true rfl) ?_
  intro p e R s m args below meth c Q A K hn9 hR9 hQ9
  obtain ⟨rN, rT, rM, rU, rK, rP, rA, rL, rB, rG⟩ := id hS9
  obtain ⟨wn, wt, wu, wk, wp, wl, wb⟩ := id hW9
  have hu9 : ∀ w ∈ u_ws RX0 TX0 13, w ∈ wsX0_moveNodes := fun w h => List.mem_cons_of_mem _ (ku_X0 w h)
  show jaW p l e R s m args below meth c 0 0 Q D vwCl A 3 (jxc q cI cZ u) [(0, .ref (q 0))] 0 []
  refine ja_iconst K (nI 0) dX0_moveNodes_0 (by decide) ?_
  refine ja_istore_n K (lv1 := [(0, .ref (q 0)), (1, .int (nI 0))]) dX0_moveNodes_1 (by decide) rfl rfl ?_
  have L2 : ∀ (i : Nat) (ta : Nat → Int32) (sa : Nat → Int32), (i ≤ jN S ∧ jxPn S i (jxsM (jxsT u ta) sa)) → jaW p l e R s m args below meth c 0 0 Q D vwCl A 3 (jxc q cI cZ (jxsM (jxsT u ta) sa)) [(0, .ref (q 0)), (1, .int (nI (i)))] 2 [] := by
    refine jl_3 (fun (i : Nat) (ta : Nat → Int32) (sa : Nat → Int32) => jN S - i) (fun (i : Nat) (ta : Nat → Int32) (sa : Nat → Int32) => i ≤ jN S ∧ jxPn S i (jxsM (jxsT u ta) sa)) _ ?_
    intro i ta sa hI2 IH2
    refine ja_iload_n K 1 dX0_moveNodes_2 rfl ?_
    refine ja_aload_n K 0 dX0_moveNodes_3 rfl ?_
    refine ja_get K hu9 0 rfl rfl 0 (by decide) (List.mem_cons_of_mem _ kfX0_7) rfl (congrArg (fun z9 => some (Value.int z9)) rN) dX0_moveNodes_4 ?_
    refine ja_icmp_ge K (tgt := 52) ((jN S) ≤ i) dX0_moveNodes_7 (by decide) (nI_leI (by omega) (by omega)) (fun h7 => ?_) (fun h7 => ?_)
    · exact ja_vret K (jxsM (jxsT u ta) sa) rfl (Nat.zero_le _) (Nat.zero_le _) dX0_moveNodes_52 hQ9 rfl ⟨ta, sa, rfl, by rw [← (show i = jN S by omega)]; exact hI2.2⟩
    · refine ja_aload_n K 0 dX0_moveNodes_10 rfl ?_
      refine ja_get K hu9 0 rfl rfl 8 (by decide) (List.mem_cons_of_mem _ kfX0_36) rfl rfl dX0_moveNodes_11 ?_
      refine ja_iload_n K 1 dX0_moveNodes_14 rfl ?_
      refine ja_iald K (v := jeI (jB (jsmall S) i)) 7 0 rfl rfl (i) rfl (by omega) (by decide) (rB _ (by omega)) dX0_moveNodes_15 ?_
      refine ja_istore_n K (lv1 := [(0, .ref (q 0)), (1, .int (nI (i))), (2, .int (jeI (jB (jsmall S) i)))]) dX0_moveNodes_16 (by decide) rfl rfl ?_
      refine ja_iload_n K 2 dX0_moveNodes_17 rfl ?_
      refine ja_iconst K (-1) dX0_moveNodes_18 (by decide) ?_
      refine ja_icmp_eq K (tgt := 46) (jB (jsmall S) i = none) dX0_moveNodes_19 (by decide) (jeI_m1 (o := jB (jsmall S) i) (fun p9 h9 => by have := ((jsmall_wf hW9).2.2.2.2.2.2 _ _ h9); omega)) (fun h19 => ?_) (fun h19 => ?_)
      · have hs : jstay S i = false := by
          cases q1 : jstay S i with
          | false => rfl
          | true => rw [jsm_B (by omega) q1] at h19; cases h19
        refine ja_iinc K (lv1 := [(0, .ref (q 0)), (1, .int (nI ((i + 1)))), (2, .int (jeI (jB (jsmall S) i)))]) 1 (nI ((i + 1))) dX0_moveNodes_46 rfl (ja_inc _) (by decide) rfl rfl ?_
        refine ja_goto K (tgt := 2) dX0_moveNodes_49 (by decide) ?_
        refine ja_locals (lv1 := [(0, .ref (q 0)), (1, .int (nI ((i + 1))))]) [0, 1] rfl ?_
        exact IH2 (i + 1) ta sa ⟨by omega, jPn_go hI2.2 hs⟩ (by omega)
      · obtain ⟨y19, ey19⟩ := Option.ne_none_iff_exists'.mp h19
        try rw [ey19]
        have by19 := ((jsmall_wf hW9).2.2.2.2.2.2 _ _ ey19)
        have hs : jstay S i = true := by
          cases q1 : jstay S i with
          | true => rfl
          | false => rw [jsm_Bn (by simp [q1])] at ey19; cases ey19
        obtain rfl : jrk S i = y19 := by rw [jsm_B (by omega) hs] at ey19; exact Option.some.inj ey19
        refine ja_aload_n K 0 dX0_moveNodes_22 rfl ?_
        refine ja_get K hu9 0 rfl rfl 1 (by decide) (List.mem_cons_of_mem _ kfX0_13) rfl rfl dX0_moveNodes_23 ?_
        refine ja_iload_n K 2 dX0_moveNodes_26 rfl ?_
        refine ja_aload_n K 0 dX0_moveNodes_27 rfl ?_
        refine ja_get K hu9 0 rfl rfl 1 (by decide) (List.mem_cons_of_mem _ kfX0_13) rfl rfl dX0_moveNodes_28 ?_
        refine ja_iload_n K 1 dX0_moveNodes_31 rfl ?_
        refine ja_iald K (v := nI ((jT S i))) 1 0 rfl rfl (i) rfl (by omega) (by decide) (hI2.2.2.2.1 i (Nat.le_refl _) (by omega)) dX0_moveNodes_32 ?_
        refine ja_iast K (ws1 := jxc q cI cZ (jxsM (jxsT u (upd ta (jrk S i) (nI (jT S i)))) sa)) 1 0 rfl rfl (jrk S i) rfl (by omega) (by decide) dX0_moveNodes_33 rfl ?_
        refine ja_aload_n K 0 dX0_moveNodes_34 rfl ?_
        refine ja_get K hu9 0 rfl rfl 2 (by decide) (List.mem_cons_of_mem _ kfX0_17) rfl rfl dX0_moveNodes_35 ?_
        refine ja_iload_n K 2 dX0_moveNodes_38 rfl ?_
        refine ja_aload_n K 0 dX0_moveNodes_39 rfl ?_
        refine ja_get K hu9 0 rfl rfl 2 (by decide) (List.mem_cons_of_mem _ kfX0_17) rfl rfl dX0_moveNodes_40 ?_
        refine ja_iload_n K 1 dX0_moveNodes_43 rfl ?_
        refine ja_zald K (v := jbI (jM S i)) 2 1 rfl rfl (i) rfl (by omega) (by decide) (hI2.2.2.2.2 i (Nat.le_refl _) (by omega)) dX0_moveNodes_44 ?_
        refine ja_zast K (ws1 := jxc q cI cZ (jxsM (jxsT u (upd ta (jrk S i) (nI (jT S i)))) (upd sa (jrk S i) (jbI (jM S i))))) 2 1 rfl rfl (jrk S i) (jbI_nar _) rfl (by omega) (by decide) dX0_moveNodes_45 rfl ?_
        refine ja_iinc K (lv1 := [(0, .ref (q 0)), (1, .int (nI ((i + 1)))), (2, .int (nI ((jrk S i))))]) 1 (nI ((i + 1))) dX0_moveNodes_46 rfl (ja_inc _) (by decide) rfl rfl ?_
        refine ja_goto K (tgt := 2) dX0_moveNodes_49 (by decide) ?_
        refine ja_locals (lv1 := [(0, .ref (q 0)), (1, .int (nI ((i + 1))))]) [0, 1] rfl ?_
        exact IH2 (i + 1) (upd ta (jrk S i) (nI (jT S i))) (upd sa (jrk S i) (jbI (jM S i))) ⟨by omega, jPn_stay hI2.2 (by omega) hs rfl rfl⟩ (by omega)
  exact L2 0 (jxT u) (jxM u) ⟨Nat.zero_le _, jPn_0 rT rM⟩
