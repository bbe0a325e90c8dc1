set_option maxRecDepth 100000 in
set_option maxHeartbeats 4000000 in
theorem jc_matters (l : Launch) (D : va_G) (q : Nat → Nat) (cI cZ : ClassId) (u : JX) (x c0 B : Nat) (hx : x < 60) (hc : c0 < 14) (hB : B < 16384) (hG : jxG u x = nI B) : jkI l yX0_matters wsX0_matters ({ frames := 0, cells := 0, slots := 0, locals := 0 }) D vwCl (jxt cI cZ) (jxc q cI cZ) [.ref (q 0), .int (nI x), .int (nI c0)] (jxc q cI cZ u) (fun r u1 => jbI (B.testBit c0) = r ∧ u = u1) := by
  refine jkI_of (cc := cX0_matters) (maxL := 3) (ret := (some .boolean)) (by decide) rfl (Nat.le_of_ble_eq_true rfl) ?_
  intro p e R s m args below meth c Q A K hn9 hR9 hQ9
  have hu9 : ∀ w ∈ u_ws RX0 TX0 13, w ∈ wsX0_matters := fun w h => List.mem_cons_of_mem _ (ku_X0 w h)
  show jaW p l e R s m args below meth c 0 0 Q D vwCl A 3 (jxc q cI cZ u) [(0, .ref (q 0)), (1, .int (nI (x))), (2, .int (nI (c0)))] 0 []
  refine ja_aload_n K 0 dX0_matters_0 rfl ?_
  refine ja_get K hu9 0 rfl rfl 10 (by decide) (List.mem_cons_of_mem _ kfX0_42) rfl rfl dX0_matters_1 ?_
  refine ja_iload_n K 1 dX0_matters_4 rfl ?_
  refine ja_iald K (v := nI (B)) 9 0 rfl rfl (x) rfl (by omega) (by decide) hG dX0_matters_5 ?_
  refine ja_iload_n K 2 dX0_matters_6 rfl ?_
  refine ja_ishr K ((nI (B) >>> (nI (c0) &&& 31))) dX0_matters_7 rfl ?_
  refine ja_iconst K (nI 1) dX0_matters_8 (by decide) ?_
  refine ja_iand K (((nI (B) >>> (nI (c0) &&& 31)) &&& nI 1)) dX0_matters_9 rfl ?_
  refine ja_iconst K (nI 1) dX0_matters_10 (by decide) ?_
  refine ja_icmp_ne K (tgt := 18) (¬ B.testBit c0 = true) dX0_matters_11 (by decide) (not_congr (jbit_get hB hc)) (fun h11 => ?_) (fun h11 => ?_)
  · refine ja_iconst K (nI 0) dX0_matters_18 (by decide) ?_
    exact ja_zret K (u) rfl (by first | exact ja_nz1 | exact ja_nz0 | exact jbI_narrow _) (Nat.zero_le _) (Nat.zero_le _) dX0_matters_19 hQ9 rfl ⟨by first | exact jb1 (by simpa using h11) | exact jb0 (by simpa using h11), rfl⟩
  · refine ja_iconst K (nI 1) dX0_matters_14 (by decide) ?_
    refine ja_goto K (tgt := 19) dX0_matters_15 (by decide) ?_
    exact ja_zret K (u) rfl (by first | exact ja_nz1 | exact ja_nz0 | exact jbI_narrow _) (Nat.zero_le _) (Nat.zero_le _) dX0_matters_19 hQ9 rfl ⟨by first | exact jb1 (by simpa using h11) | exact jb0 (by simpa using h11), rfl⟩
