set_option maxRecDepth 100000 in
set_option maxHeartbeats 4000000 in
theorem jd_up (l : Launch) (D : va_G) (q : Nat → Nat) (cI cZ : ClassId) (u : JM) (c0 x : Nat) (hc : c0 < 14) (hx : x < 60) (o : Option Nat) (ho : jmU u (60 * c0 + x) = nI (joN o)) : jkI l yX1_up wsX1_up ({ frames := 0, cells := 0, slots := 0, locals := 0 }) D vwCl (jxt cI cZ) (jmc q cI cZ) [.ref (q 0), .int (nI c0), .int (nI x)] (jmc q cI cZ u) (fun r u1 => jeI o = r ∧ u = u1) := by
  refine jkI_of (cc := cX1_up) (maxL := 3) (ret := (some .int)) (by decide) rfl (Nat.le_of_ble_eq_true rfl) ?_
  intro p e R s m args below meth c Q A K hn9 hR9 hQ9
  have hu9 : ∀ w ∈ u_ws RX1 TX1 16, w ∈ wsX1_up := fun w h => List.mem_cons_of_mem _ (ku_X1 w h)
  show jaW p l e R s m args below meth c 0 0 Q D vwCl A 3 (jmc q cI cZ u) [(0, .ref (q 0)), (1, .int (nI (c0))), (2, .int (nI (x)))] 0 []
  refine ja_aload_n K 0 dX1_up_0 rfl ?_
  refine ja_get K hu9 0 rfl rfl 4 (by decide) (List.mem_cons_of_mem _ kfX1_17) rfl rfl dX1_up_1 ?_
  refine ja_bipush K (nI 60) dX1_up_4 (by decide) ?_
  refine ja_iload_n K 1 dX1_up_6 rfl ?_
  refine ja_imul K (nI ((60 * c0))) dX1_up_7 (pk_mul _ _) ?_
  refine ja_iload_n K 2 dX1_up_8 rfl ?_
  refine ja_iadd K (nI (((60 * c0) + x))) dX1_up_9 (nI_add _ _) ?_
  refine ja_iald K (v := nI ((joN o))) 3 0 rfl rfl (((60 * c0) + x)) rfl (by omega) (by decide) ho dX1_up_10 ?_
  refine ja_iconst K (nI 1) dX1_up_11 (by decide) ?_
  refine ja_isub K (jeI (o)) dX1_up_12 (joN_eI1 _) ?_
  exact ja_iret K (u) rfl (Nat.zero_le _) (Nat.zero_le _) dX1_up_13 hQ9 rfl ⟨rfl, rfl⟩
