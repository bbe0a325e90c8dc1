set_option maxRecDepth 100000 in
set_option maxHeartbeats 4000000 in
theorem jd_thrown (l : Launch) (D : va_G) (q : Nat → Nat) (cI cZ : ClassId) (u : JM)  : jkI l yX1_thrown wsX1_thrown ({ frames := 0, cells := 0, slots := 0, locals := 0 }) D vwCl (jxt cI cZ) (jmc q cI cZ) [.ref (q 0)] (jmc q cI cZ u) (fun r u1 => jmF u = r ∧ u = u1) := by
  refine jkI_of (cc := cX1_thrown) (maxL := 1) (ret := (some .int)) (by decide) rfl (Nat.le_of_ble_eq_true rfl) ?_
  intro p e R s m args below meth c Q A K hn9 hR9 hQ9
  have hu9 : ∀ w ∈ u_ws RX1 TX1 16, w ∈ wsX1_thrown := fun w h => List.mem_cons_of_mem _ (ku_X1 w h)
  show jaW p l e R s m args below meth c 0 0 Q D vwCl A 1 (jmc q cI cZ u) [(0, .ref (q 0))] 0 []
  refine ja_aload_n K 0 dX1_thrown_0 rfl ?_
  refine ja_get K hu9 0 rfl rfl 0 (by decide) (List.mem_cons_of_mem _ kfX1_38) rfl rfl dX1_thrown_1 ?_
  exact ja_iret K (u) rfl (Nat.zero_le _) (Nat.zero_le _) dX1_thrown_4 hQ9 rfl ⟨rfl, rfl⟩
