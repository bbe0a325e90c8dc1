set_option maxRecDepth 100000 in
set_option maxHeartbeats 4000000 in
theorem jd_nearest (l : Launch) (D : va_G) (q : Nat → Nat) (cI cZ : ClassId) (S : JS) (u : JM) (hW9 : jWf S) (hS9 : jmR1 S u) (c0 x : Nat) (hc : c0 < jN S) (hx : x < 60) : jkI l yX1_nearest wsX1_nearest ({ frames := 5, cells := 0, slots := 0, locals := 116 }) D vwCl (jxt cI cZ) (jmc q cI cZ) [.ref (q 0), .int (nI c0), .int (nI x)] (jmc q cI cZ u) (fun r u1 => jeI (jnear S x c0) = r ∧ u = u1) := by
  refine jkI_of (cc := cX1_nearest) (maxL := 4) (ret := (some .int)) (by decide) rfl (Nat.le_of_ble_eq_true rfl) ?_
  intro p e R s m args below meth c Q A K hn9 hR9 hQ9
  obtain ⟨rN, rT, rM, rU, rK, rP, rA, rL, rB⟩ := id hS9
  obtain ⟨wn, wt, wu, wk, wp, wl, wb⟩ := id hW9
  have hu9 : ∀ w ∈ u_ws RX1 TX1 16, w ∈ wsX1_nearest := fun w h => List.mem_cons_of_mem _ (ku_X1 w h)
  show jaW p l e R s m args below meth c 0 0 Q D vwCl A 4 (jmc q cI cZ u) [(0, .ref (q 0)), (1, .int (nI (c0))), (2, .int (nI (x)))] 0 []
  refine ja_aload_n K 0 dX1_nearest_0 rfl ?_
  refine ja_iload_n K 1 dX1_nearest_1 rfl ?_
  refine ja_iload_n K 2 dX1_nearest_2 rfl ?_
  refine ja_callVI K (q0 := 0) (qc := (RX1, TX1, 16)) (st := []) [.int (nI (c0)), .int (nI (x))] (jd_up l D q cI cZ (u) (c0) (x) (by omega) (by omega) (jU S (x) (c0)) (rU (x) (c0) (by omega) (by omega))) (cwV 2 K.1.2.2.2.2 (gX1_X1_up _) rfl rfl rfl (by decide +kernel) (by rw [hR9]; exact ⟨Nat.le_of_ble_eq_true rfl, Nat.le_of_ble_eq_true rfl⟩)) rfl rfl rfl rfl rfl (Nat.le_of_ble_eq_true rfl) dX1_nearest_3 (by rw [hR9]; exact ⟨Nat.le_of_ble_eq_true rfl, Nat.le_of_ble_eq_true rfl⟩) (fun r9 u9 h9 => ?_)
  obtain ⟨rfl, rfl⟩ := h9
  refine ja_istore_n K (lv1 := [(0, .ref (q 0)), (1, .int (nI (c0))), (2, .int (nI (x))), (3, .int (jeI (jU S (x) (c0))))]) dX1_nearest_6 (by decide) rfl rfl ?_
  have L7 : ∀ (o : Option Nat), ((∀ y, o = some y → y < jN S) ∧ jpF (jU S x) (jmatS S x) 14 o = jnear S x c0) → jaW p l e R s m args below meth c 0 0 Q D vwCl A 4 (jmc q cI cZ u) [(0, .ref (q 0)), (1, .int (nI (c0))), (2, .int (nI (x))), (3, .int (jeI (o)))] 7 [] := by
    refine jl_1 (fun (o : Option Nat) => jho (jN S) (jT S) o) (fun (o : Option Nat) => (∀ y, o = some y → y < jN S) ∧ jpF (jU S x) (jmatS S x) 14 o = jnear S x c0) _ ?_
    intro o hI7 IH7
    refine ja_iload_n K 3 dX1_nearest_7 rfl ?_
    refine ja_if_lt K (tgt := 30) (o = none) dX1_nearest_8 (by decide) (jeI_lt0 (fun p9 h9 => by have := hI7.1 p9 h9; omega)) (fun h8 => ?_) (fun h8 => ?_)
    · subst h8
      refine ja_iload_n K 3 dX1_nearest_30 rfl ?_
      exact ja_iret K (u) rfl (Nat.zero_le _) (Nat.zero_le _) dX1_nearest_31 hQ9 rfl ⟨by rw [← hI7.2]; first | (rw [jpF_none]; done) | (rw [jpF_S hW9, if_pos h17]; done), rfl⟩
    · obtain ⟨y8, rfl⟩ := Option.ne_none_iff_exists'.mp h8
      have by8 := hI7.1 y8 rfl
      refine ja_aload_n K 0 dX1_nearest_11 rfl ?_
      refine ja_iload_n K 3 dX1_nearest_12 rfl ?_
      refine ja_iload_n K 2 dX1_nearest_13 rfl ?_
      refine ja_callVI K (q0 := 0) (qc := (RX1, TX1, 16)) (st := []) [.int (nI (y8)), .int (nI (x))] (jd_matters l D q cI cZ S (u) hW9 hS9 (y8) (x) (by omega) (by omega)) (cwV 2 K.1.2.2.2.2 (gX1_X1_matters _) rfl rfl rfl (by decide +kernel) (by rw [hR9]; exact ⟨Nat.le_of_ble_eq_true rfl, Nat.le_of_ble_eq_true rfl⟩)) rfl rfl rfl rfl rfl (Nat.le_of_ble_eq_true rfl) dX1_nearest_14 (by rw [hR9]; exact ⟨Nat.le_of_ble_eq_true rfl, Nat.le_of_ble_eq_true rfl⟩) (fun r9 u9 h9 => ?_)
      obtain ⟨rfl, rfl⟩ := h9
      refine ja_if_ne K (tgt := 30) (jmatS S (x) (y8) = true) dX1_nearest_17 (by decide) (jbI_nz _) (fun h17 => ?_) (fun h17 => ?_)
      · refine ja_iload_n K 3 dX1_nearest_30 rfl ?_
        exact ja_iret K (u) rfl (Nat.zero_le _) (Nat.zero_le _) dX1_nearest_31 hQ9 rfl ⟨by rw [← hI7.2]; first | (rw [jpF_none]; done) | (rw [jpF_S hW9, if_pos h17]; done), rfl⟩
      · refine ja_aload_n K 0 dX1_nearest_20 rfl ?_
        refine ja_iload_n K 3 dX1_nearest_21 rfl ?_
        refine ja_iload_n K 2 dX1_nearest_22 rfl ?_
        refine ja_callVI K (q0 := 0) (qc := (RX1, TX1, 16)) (st := []) [.int (nI (y8)), .int (nI (x))] (jd_up l D q cI cZ (u) (y8) (x) (by omega) (by omega) (jU S (x) (y8)) (rU (x) (y8) (by omega) (by omega))) (cwV 2 K.1.2.2.2.2 (gX1_X1_up _) rfl rfl rfl (by decide +kernel) (by rw [hR9]; exact ⟨Nat.le_of_ble_eq_true rfl, Nat.le_of_ble_eq_true rfl⟩)) rfl rfl rfl rfl rfl (Nat.le_of_ble_eq_true rfl) dX1_nearest_23 (by rw [hR9]; exact ⟨Nat.le_of_ble_eq_true rfl, Nat.le_of_ble_eq_true rfl⟩) (fun r9 u9 h9 => ?_)
        obtain ⟨rfl, rfl⟩ := h9
        refine ja_istore_n K (lv1 := [(0, .ref (q 0)), (1, .int (nI (c0))), (2, .int (nI (x))), (3, .int (jeI (jU S (x) (y8))))]) dX1_nearest_26 (by decide) rfl rfl ?_
        refine ja_goto K (tgt := 7) dX1_nearest_27 (by decide) ?_
        have k9 := IH7 (jU S x y8) ⟨fun z hz => (wu _ _ z hz).2.1, by rw [← hI7.2, jpF_S hW9]; simp [h17]⟩ (jho_up hW9 x y8)
        exact k9
  exact L7 (jU S x c0) ⟨fun y h => (wu _ _ y h).2.1, rfl⟩
