set_option maxRecDepth 100000 in
set_option maxHeartbeats 4000000 in
theorem jd_refused (l : Launch) (D : va_G) (q : Nat → Nat) (cI cZ : ClassId) (u : JM) (k : Nat) (hk : k < 10) : jkI l yX1_refused wsX1_refused ({ frames := 0, cells := 0, slots := 0, locals := 0 }) D vwCl (jxt cI cZ) (jmc q cI cZ) [.ref (q 0), .int (nI k)] (jmc q cI cZ u) (fun r u1 => jbI (decide (0 < k)) = r ∧ jmsF u (nI k) = u1) := by
  refine jkI_of (cc := cX1_refused) (maxL := 2) (ret := (some .boolean)) (by decide) rfl (Nat.le_of_ble_eq_true rfl) ?_
  intro p e R s m args below meth c Q A K hn9 hR9 hQ9
  have hu9 : ∀ w ∈ u_ws RX1 TX1 16, w ∈ wsX1_refused := fun w h => List.mem_cons_of_mem _ (ku_X1 w h)
  show jaW p l e R s m args below meth c 0 0 Q D vwCl A 2 (jmc q cI cZ u) [(0, .ref (q 0)), (1, .int (nI (k)))] 0 []
  refine ja_aload_n K 0 dX1_refused_0 rfl ?_
  refine ja_iload_n K 1 dX1_refused_1 rfl ?_
  refine ja_put K (ws1 := jmc q cI cZ (jmsF (u) (nI (k)))) hu9 0 rfl rfl 0 (by decide) (List.mem_cons_of_mem _ kfX1_38) rfl tyX1 tyX1_ok nmX1 rfl rfl rfl rfl (Nat.le_of_ble_eq_true rfl) dX1_refused_2 rfl ?_
  refine ja_iload_n K 1 dX1_refused_5 rfl ?_
  refine ja_if_le K (tgt := 13) (k ≤ 0) dX1_refused_6 (by decide) (jz_le (by omega)) (fun h6 => ?_) (fun h6 => ?_)
  · refine ja_iconst K (nI 0) dX1_refused_13 (by decide) ?_
    exact ja_zret K (jmsF (u) (nI (k))) rfl (by first | exact ja_nz1 | exact ja_nz0 | exact jbI_narrow _) (Nat.zero_le _) (Nat.zero_le _) dX1_refused_14 hQ9 rfl ⟨by first | exact jb1 (by simp; omega) | exact jb0 (by simp; omega), rfl⟩
  · refine ja_iconst K (nI 1) dX1_refused_9 (by decide) ?_
    refine ja_goto K (tgt := 14) dX1_refused_10 (by decide) ?_
    exact ja_zret K (jmsF (u) (nI (k))) rfl (by first | exact ja_nz1 | exact ja_nz0 | exact jbI_narrow _) (Nat.zero_le _) (Nat.zero_le _) dX1_refused_14 hQ9 rfl ⟨by first | exact jb1 (by simp; omega) | exact jb0 (by simp; omega), rfl⟩
