set_option maxRecDepth 100000 in
set_option maxHeartbeats 4000000 in
theorem jc_node (l : Launch) (hst9 : l.stackTraces = false) (D : va_G) (q : Nat → Nat) (cI cZ : ClassId) (S : JS) (u : JX) (hW9 : jWf S) (hS9 : jxR1 S u) (z : Int32) (b : Bool) : jkX l yX0_node wsX0_node ({ frames := 6, cells := 1, slots := 6, locals := 90 }) D vwCl (jxt cI cZ) jzs jtx (jxc q cI cZ) [.ref (q 0), .int z, .int (jbI b)] (jxc q cI cZ u) (fun r u1 => jcN S z = 0 ∧ nI (jN S) = r ∧ jxR1 (jaddN S z b) u1) (fun E u1 => u = u1 ∧ ((E = jEA ∧ jcN S z = 1) ∨ (E = jES ∧ jcN S z = 2))) := by
  refine jkX_of (cc := cX0_node) (maxL := 3) (ret := (some .int)) (by decide) rfl (Nat.le_of_ble_eq_true rfl) ?_
  intro p e R s m args below meth c Q A K hn9 hR9 hEx9 hZ9 hQ9
  obtain ⟨rN, rT, rM, rU, rK, rP, rA, rL, rB⟩ := id hS9
  obtain ⟨wn, wt, wu, wk, wp, wl, wb⟩ := id hW9
  have hu9 : ∀ w ∈ u_ws RX0 TX0 13, w ∈ wsX0_node := fun w h => List.mem_cons_of_mem _ (ku_X0 w h)
  show jaW p l e R s m args below meth c 0 0 Q D vwCl A 3 (jxc q cI cZ u) [(0, .ref (q 0)), (1, .int (z)), (2, .int (jbI (b)))] 0 []
  refine ja_iload_n K 1 dX0_node_0 rfl ?_
  refine ja_if_lt K (tgt := 11) (z < 0) dX0_node_1 (by decide) Iff.rfl (fun h1 => ?_) (fun h1 => ?_)
  · have f1 : jin z 1001 = false := jin_ff1 h1
    exact ja_throwS K (names := jnm) (text := "time is not 0 .. 1000") (u) hst9 hEx9 hZ9 (by decide +kernel) (by decide +kernel) (List.mem_cons_of_mem _ kcX0_57) (List.mem_cons_of_mem _ kini_IAE) (by decide +kernel) (fun w h => List.mem_cons_of_mem _ (jvA1 w h)) jvA2 jvA3 dX0_node_11 dX0_node_14 dX0_node_15 dX0_node_17 dX0_node_20 (by rw [hR9]; exact Nat.le_of_ble_eq_true rfl) (by rw [hR9]; exact Nat.le_of_ble_eq_true rfl) (by rw [hR9]; exact Nat.le_of_ble_eq_true rfl) (by rw [hR9]; exact Nat.le_of_ble_eq_true rfl) (Nat.le_of_ble_eq_true rfl) (Nat.le_of_ble_eq_true rfl) hQ9 rfl ⟨rfl, Or.inl ⟨rfl, by simp [jcN, h1, f1]⟩⟩
  · refine ja_iload_n K 1 dX0_node_4 rfl ?_
    refine ja_sipush K (nI 1000) dX0_node_5 (by decide) ?_
    refine ja_icmp_le K (tgt := 21) (z ≤ nI 1000) dX0_node_8 (by decide) Iff.rfl (fun h8 => ?_) (fun h8 => ?_)
    · have f8 : jin z 1001 = true := jin_le h1 h8
      obtain ⟨t0, ht0, rfl⟩ := jin_of f8 (by omega)
      refine ja_aload_n K 0 dX0_node_21 rfl ?_
      refine ja_get K hu9 0 rfl rfl 0 (by decide) (List.mem_cons_of_mem _ kfX0_7) rfl (congrArg (fun z9 => some (Value.int z9)) rN) dX0_node_22 ?_
      refine ja_bipush K (nI 14) dX0_node_25 (by decide) ?_
      refine ja_icmp_lt K (tgt := 40) ((jN S) < 14) dX0_node_27 (by decide) (nI_ltI (by omega) (by omega)) (fun h27 => ?_) (fun h27 => ?_)
      · refine ja_aload_n K 0 dX0_node_40 rfl ?_
        refine ja_get K hu9 0 rfl rfl 1 (by decide) (List.mem_cons_of_mem _ kfX0_13) rfl rfl dX0_node_41 ?_
        refine ja_aload_n K 0 dX0_node_44 rfl ?_
        refine ja_get K hu9 0 rfl rfl 0 (by decide) (List.mem_cons_of_mem _ kfX0_7) rfl (congrArg (fun z9 => some (Value.int z9)) rN) dX0_node_45 ?_
        refine ja_iload_n K 1 dX0_node_48 rfl ?_
        refine ja_iast K (ws1 := jxc q cI cZ (jxsT (u) (upd (jxT (u)) ((jN S)) (nI (t0))))) 1 0 rfl rfl ((jN S)) rfl (by omega) (by decide) dX0_node_49 rfl ?_
        refine ja_aload_n K 0 dX0_node_50 rfl ?_
        refine ja_get K hu9 0 rfl rfl 2 (by decide) (List.mem_cons_of_mem _ kfX0_17) rfl rfl dX0_node_51 ?_
        refine ja_aload_n K 0 dX0_node_54 rfl ?_
        refine ja_get K hu9 0 rfl rfl 0 (by decide) (List.mem_cons_of_mem _ kfX0_7) rfl (congrArg (fun z9 => some (Value.int z9)) rN) dX0_node_55 ?_
        refine ja_iload_n K 2 dX0_node_58 rfl ?_
        refine ja_zast K (ws1 := jxc q cI cZ (jxsM (jxsT (u) (upd (jxT (u)) ((jN S)) (nI (t0)))) (upd (jxM (jxsT (u) (upd (jxT (u)) ((jN S)) (nI (t0))))) ((jN S)) (jbI (b))))) 2 1 rfl rfl ((jN S)) (jbI_nar _) rfl (by omega) (by decide) dX0_node_59 rfl ?_
        refine ja_aload_n K 0 dX0_node_60 rfl ?_
        refine ja_dup K dX0_node_61 rfl ?_
        refine ja_get K hu9 0 rfl rfl 0 (by decide) (List.mem_cons_of_mem _ kfX0_7) rfl (congrArg (fun z9 => some (Value.int z9)) rN) dX0_node_62 ?_
        refine ja_iconst K (nI 1) dX0_node_65 (by decide) ?_
        refine ja_iadd K (nI (((jN S) + 1))) dX0_node_66 (nI_add _ _) ?_
        refine ja_put K (ws1 := jxc q cI cZ (jxsN (jxsM (jxsT (u) (upd (jxT (u)) ((jN S)) (nI (t0)))) (upd (jxM (jxsT (u) (upd (jxT (u)) ((jN S)) (nI (t0))))) ((jN S)) (jbI (b)))) (nI (((jN S) + 1))))) hu9 0 rfl rfl 0 (by decide) (List.mem_cons_of_mem _ kfX0_7) rfl tyX0 tyX0_ok nmX0 rfl rfl rfl rfl (Nat.le_of_ble_eq_true rfl) dX0_node_67 rfl ?_
        refine ja_aload_n K 0 dX0_node_70 rfl ?_
        refine ja_get K hu9 0 rfl rfl 0 (by decide) (List.mem_cons_of_mem _ kfX0_7) rfl rfl dX0_node_71 ?_
        refine ja_iconst K (nI 1) dX0_node_74 (by decide) ?_
        refine ja_isub K (nI ((((jN S) + 1) - 1))) dX0_node_75 (pk_sub (by omega)) ?_
        exact ja_iretX K (jxsN (jxsM (jxsT (u) (upd (jxT (u)) ((jN S)) (nI (t0)))) (upd (jxM (jxsT (u) (upd (jxT (u)) ((jN S)) (nI (t0))))) ((jN S)) (jbI (b)))) (nI (((jN S) + 1)))) rfl (by rfl) (Nat.zero_le _) (Nat.zero_le _) dX0_node_76 hQ9 rfl ⟨by simp [jcN, f8]; omega, rfl, jxR1_addN hS9 ht0⟩
      · have f27 : jN S = 14 := by omega
        exact ja_throwS K (names := jnm) (text := "there are 14 nodes") (u) hst9 hEx9 hZ9 (by decide +kernel) (by decide +kernel) (List.mem_cons_of_mem _ kcX0_64) (List.mem_cons_of_mem _ kini_ISE) (by decide +kernel) (fun w h => List.mem_cons_of_mem _ (jvS1 w h)) jvS2 jvS3 dX0_node_30 dX0_node_33 dX0_node_34 dX0_node_36 dX0_node_39 (by rw [hR9]; exact Nat.le_of_ble_eq_true rfl) (by rw [hR9]; exact Nat.le_of_ble_eq_true rfl) (by rw [hR9]; exact Nat.le_of_ble_eq_true rfl) (by rw [hR9]; exact Nat.le_of_ble_eq_true rfl) (Nat.le_of_ble_eq_true rfl) (Nat.le_of_ble_eq_true rfl) hQ9 rfl ⟨rfl, Or.inr (⟨rfl, by simp [jcN, f8, h27, f27]⟩)⟩
    · have f8 : jin z 1001 = false := jin_ff3 (by decide) h8
      exact ja_throwS K (names := jnm) (text := "time is not 0 .. 1000") (u) hst9 hEx9 hZ9 (by decide +kernel) (by decide +kernel) (List.mem_cons_of_mem _ kcX0_57) (List.mem_cons_of_mem _ kini_IAE) (by decide +kernel) (fun w h => List.mem_cons_of_mem _ (jvA1 w h)) jvA2 jvA3 dX0_node_11 dX0_node_14 dX0_node_15 dX0_node_17 dX0_node_20 (by rw [hR9]; exact Nat.le_of_ble_eq_true rfl) (by rw [hR9]; exact Nat.le_of_ble_eq_true rfl) (by rw [hR9]; exact Nat.le_of_ble_eq_true rfl) (by rw [hR9]; exact Nat.le_of_ble_eq_true rfl) (Nat.le_of_ble_eq_true rfl) (Nat.le_of_ble_eq_true rfl) hQ9 rfl ⟨rfl, Or.inl ⟨rfl, by simp [jcN, h1, h8, f8]⟩⟩
