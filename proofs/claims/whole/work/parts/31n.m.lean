set_option maxRecDepth 100000 in
set_option maxHeartbeats 4000000 in
theorem jd_begins (l : Launch) (D : va_G) (q : Nat → Nat) (cI cZ : ClassId) (S : JS) (u : JM) (hW9 : jWf S) (hS9 : jmR1 S u) (c0 x : Nat) (hc : c0 < jN S) (hx : x < 60) : jkI l yX1_begins wsX1_begins ({ frames := 1, cells := 0, slots := 0, locals := 22 }) D vwCl (jxt cI cZ) (jmc q cI cZ) [.ref (q 0), .int (nI c0), .int (nI x)] (jmc q cI cZ u) (fun r u1 => jbI (jst (jU S) x c0) = r ∧ u = u1) := by
  refine jkI_of (cc := cX1_begins) (maxL := 3) (ret := (some .boolean)) (by decide) rfl (Nat.le_of_ble_eq_true rfl) ?_
  intro p e R s m args below meth c Q A K hn9 hR9 hQ9
  obtain ⟨rN, rT, rM, rU, rK, rP, rA, rL, rB⟩ := id hS9
  obtain ⟨wn, wt, wu, wk, wp, wl, wb⟩ := id hW9
  have hu9 : ∀ w ∈ u_ws RX1 TX1 16, w ∈ wsX1_begins := fun w h => List.mem_cons_of_mem _ (ku_X1 w h)
  show jaW p l e R s m args below meth c 0 0 Q D vwCl A 3 (jmc q cI cZ u) [(0, .ref (q 0)), (1, .int (nI (c0))), (2, .int (nI (x)))] 0 []
  refine ja_aload_n K 0 dX1_begins_0 rfl ?_
  refine ja_iload_n K 1 dX1_begins_1 rfl ?_
  refine ja_iload_n K 2 dX1_begins_2 rfl ?_
  refine ja_callVI K (q0 := 0) (qc := (RX1, TX1, 16)) (st := []) [.int (nI (c0)), .int (nI (x))] (jd_up l D q cI cZ (u) (c0) (x) (by omega) (by omega) (jU S (x) (c0)) (rU (x) (c0) (by omega) (by omega))) (cwV 2 K.1.2.2.2.2 (gX1_X1_up _) rfl rfl rfl (by decide +kernel) (by rw [hR9]; exact ⟨Nat.le_of_ble_eq_true rfl, Nat.le_of_ble_eq_true rfl⟩)) rfl rfl rfl rfl rfl (Nat.le_of_ble_eq_true rfl) dX1_begins_3 (by rw [hR9]; exact ⟨Nat.le_of_ble_eq_true rfl, Nat.le_of_ble_eq_true rfl⟩) (fun r9 u9 h9 => ?_)
  obtain ⟨rfl, rfl⟩ := h9
  refine ja_if_lt K (tgt := 34) (jU S (x) (c0) = none) dX1_begins_6 (by decide) (jeI_lt0 (fun p9 h9 => by have := (wu _ _ _ h9).2.1; omega)) (fun h6 => ?_) (fun h6 => ?_)
  · try rw [h6]
    refine ja_iconst K (nI 0) dX1_begins_34 (by decide) ?_
    exact ja_zret K (u) rfl (by first | exact ja_nz1 | exact ja_nz0 | exact jbI_narrow _) (Nat.zero_le _) (Nat.zero_le _) dX1_begins_35 hQ9 rfl ⟨jb0 (by simp [jst, h6]), rfl⟩
  · obtain ⟨y6, ey6⟩ := Option.ne_none_iff_exists'.mp h6
    try rw [ey6]
    have by6 := wu _ _ _ ey6
    refine ja_iload_n K 2 dX1_begins_9 rfl ?_
    refine ja_if_eq K (tgt := 30) (x = 0) dX1_begins_10 (by decide) (jz_eq (by omega)) (fun h10 => ?_) (fun h10 => ?_)
    · refine ja_iconst K (nI 1) dX1_begins_30 (by decide) ?_
      refine ja_goto K (tgt := 35) dX1_begins_31 (by decide) ?_
      exact ja_zret K (u) rfl (by first | exact ja_nz1 | exact ja_nz0 | exact jbI_narrow _) (Nat.zero_le _) (Nat.zero_le _) dX1_begins_35 hQ9 rfl ⟨by first | exact jb1 (by simp only [jst]; rw [ey6]; simp [h10]) | exact jb0 (by simp only [jst]; rw [ey6]; simp [h10]), rfl⟩
    · refine ja_aload_n K 0 dX1_begins_13 rfl ?_
      refine ja_iload_n K 1 dX1_begins_14 rfl ?_
      refine ja_iload_n K 2 dX1_begins_15 rfl ?_
      refine ja_iconst K (nI 1) dX1_begins_16 (by decide) ?_
      refine ja_isub K (nI ((x - 1))) dX1_begins_17 (pk_sub (by omega)) ?_
      refine ja_callVI K (q0 := 0) (qc := (RX1, TX1, 16)) (st := []) [.int (nI (c0)), .int (nI ((x - 1)))] (jd_up l D q cI cZ (u) (c0) ((x - 1)) (by omega) (by omega) (jU S ((x - 1)) (c0)) (rU ((x - 1)) (c0) (by omega) (by omega))) (cwV 2 K.1.2.2.2.2 (gX1_X1_up _) rfl rfl rfl (by decide +kernel) (by rw [hR9]; exact ⟨Nat.le_of_ble_eq_true rfl, Nat.le_of_ble_eq_true rfl⟩)) rfl rfl rfl rfl rfl (Nat.le_of_ble_eq_true rfl) dX1_begins_18 (by rw [hR9]; exact ⟨Nat.le_of_ble_eq_true rfl, Nat.le_of_ble_eq_true rfl⟩) (fun r9 u9 h9 => ?_)
      obtain ⟨rfl, rfl⟩ := h9
      refine ja_aload_n K 0 dX1_begins_21 rfl ?_
      refine ja_iload_n K 1 dX1_begins_22 rfl ?_
      refine ja_iload_n K 2 dX1_begins_23 rfl ?_
      refine ja_callVI K (q0 := 0) (qc := (RX1, TX1, 16)) (st := [.int (jeI (jU S ((x - 1)) (c0)))]) [.int (nI (c0)), .int (nI (x))] (jd_up l D q cI cZ (u) (c0) (x) (by omega) (by omega) (jU S (x) (c0)) (rU (x) (c0) (by omega) (by omega))) (cwV 2 K.1.2.2.2.2 (gX1_X1_up _) rfl rfl rfl (by decide +kernel) (by rw [hR9]; exact ⟨Nat.le_of_ble_eq_true rfl, Nat.le_of_ble_eq_true rfl⟩)) rfl rfl rfl rfl rfl (Nat.le_of_ble_eq_true rfl) dX1_begins_24 (by rw [hR9]; exact ⟨Nat.le_of_ble_eq_true rfl, Nat.le_of_ble_eq_true rfl⟩) (fun r9 u9 h9 => ?_)
      obtain ⟨rfl, rfl⟩ := h9
      refine ja_icmp_eq K (tgt := 34) (jU S ((x - 1)) (c0) = jU S (x) (c0)) dX1_begins_27 (by decide) (jeI_inj (o := jU S ((x - 1)) (c0)) (o' := jU S (x) (c0)) (fun p9 h9 => by have := (wu _ _ _ h9).2.1; omega) (fun p9 h9 => by have := (wu _ _ _ h9).2.1; omega)) (fun h27 => ?_) (fun h27 => ?_)
      · rw [ey6] at h27
        refine ja_iconst K (nI 0) dX1_begins_34 (by decide) ?_
        exact ja_zret K (u) rfl (by first | exact ja_nz1 | exact ja_nz0 | exact jbI_narrow _) (Nat.zero_le _) (Nat.zero_le _) dX1_begins_35 hQ9 rfl ⟨by first | exact jb1 (by simp only [jst]; rw [ey6]; simp [h10, h27]) | exact jb0 (by simp only [jst]; rw [ey6]; simp [h10, h27]), rfl⟩
      · rw [ey6] at h27
        refine ja_iconst K (nI 1) dX1_begins_30 (by decide) ?_
        refine ja_goto K (tgt := 35) dX1_begins_31 (by decide) ?_
        exact ja_zret K (u) rfl (by first | exact ja_nz1 | exact ja_nz0 | exact jbI_narrow _) (Nat.zero_le _) (Nat.zero_le _) dX1_begins_35 hQ9 rfl ⟨by first | exact jb1 (by simp only [jst]; rw [ey6]; simp [h10, h27]) | exact jb0 (by simp only [jst]; rw [ey6]; simp [h10, h27]), rfl⟩
