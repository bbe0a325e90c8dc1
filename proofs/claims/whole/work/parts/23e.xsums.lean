set_option maxRecDepth 100000 in
set_option maxHeartbeats 4000000 in
theorem jc_count (l : Launch) (D : va_G) (q : Nat → Nat) (cI cZ : ClassId) (S : JS) (u : JX) (hW9 : jWf S) (hS9 : jxR1 S u) (z : Int32) : jkI l yX0_count wsX0_count ({ frames := 3, cells := 0, slots := 0, locals := 68 }) D vwCl (jxt cI cZ) (jxc q cI cZ) [.ref (q 0), .int z] (jxc q cI cZ u) (fun r u1 => jcount S z = r ∧ u = u1) := by
  refine jkI_of (cc := cX0_count) (maxL := 2) (ret := (some .int)) (by decide) rfl (Nat.le_of_ble_eq_true rfl) ?_
  intro p e R s m args below meth c Q A K hn9 hR9 hQ9
  obtain ⟨rN, rT, rM, rU, rK, rP, rA, rL, rB⟩ := id hS9
  obtain ⟨wn, wt, wu, wk, wp, wl, wb⟩ := id hW9
  have hu9 : ∀ w ∈ u_ws RX0 TX0 13, w ∈ wsX0_count := fun w h => List.mem_cons_of_mem _ (ku_X0 w h)
  show jaW p l e R s m args below meth c 0 0 Q D vwCl A 2 (jxc q cI cZ u) [(0, .ref (q 0)), (1, .int (z))] 0 []
  refine ja_iload_n K 1 dX0_count_0 rfl ?_
  rcases jsw5 z with rfl | rfl | rfl | rfl | rfl | ⟨hz, hz0, hz1, hz2, hz3, hz4⟩
  · refine ja_tableIn K (off := 35) (tgt := 36) dX0_count_1 (by decide) (by decide) (by decide) (by decide) ?_
    refine ja_aload_n K 0 dX0_count_36 rfl ?_
    refine ja_get K hu9 0 rfl rfl 0 (by decide) (List.mem_cons_of_mem _ kfX0_7) rfl (congrArg (fun z9 => some (Value.int z9)) rN) dX0_count_37 ?_
    exact ja_iret K (u) rfl (Nat.zero_le _) (Nat.zero_le _) dX0_count_40 hQ9 rfl ⟨by first | (simp only [jcount, hz0, hz1, hz2, hz3, hz4, if_false]; done) | (simp only [jcount]; rfl), rfl⟩
  · refine ja_tableIn K (off := 40) (tgt := 41) dX0_count_1 (by decide) (by decide) (by decide) (by decide) ?_
    refine ja_aload_n K 0 dX0_count_41 rfl ?_
    refine ja_callVI K (q0 := 0) (qc := (RX0, TX0, 13)) (st := []) [] (jc_countSamples l D q cI cZ S (u) hW9 hS9) (cwV 0 K.1.2.2.2.2 (gX0_X0_countSamples _) rfl rfl rfl (by decide +kernel) (by rw [hR9]; exact ⟨Nat.le_of_ble_eq_true rfl, Nat.le_of_ble_eq_true rfl⟩)) rfl rfl rfl rfl rfl (Nat.le_of_ble_eq_true rfl) dX0_count_42 (by rw [hR9]; exact ⟨Nat.le_of_ble_eq_true rfl, Nat.le_of_ble_eq_true rfl⟩) (fun r9 u9 h9 => ?_)
    obtain ⟨rfl, rfl⟩ := h9
    exact ja_iret K (u) rfl (Nat.zero_le _) (Nat.zero_le _) dX0_count_45 hQ9 rfl ⟨by first | (simp only [jcount, hz0, hz1, hz2, hz3, hz4, if_false]; done) | (simp only [jcount]; rfl), rfl⟩
  · refine ja_tableIn K (off := 45) (tgt := 46) dX0_count_1 (by decide) (by decide) (by decide) (by decide) ?_
    refine ja_aload_n K 0 dX0_count_46 rfl ?_
    refine ja_callVI K (q0 := 0) (qc := (RX0, TX0, 13)) (st := []) [] (jc_countEdges l D q cI cZ S (u) hW9 hS9) (cwV 0 K.1.2.2.2.2 (gX0_X0_countEdges _) rfl rfl rfl (by decide +kernel) (by rw [hR9]; exact ⟨Nat.le_of_ble_eq_true rfl, Nat.le_of_ble_eq_true rfl⟩)) rfl rfl rfl rfl rfl (Nat.le_of_ble_eq_true rfl) dX0_count_47 (by rw [hR9]; exact ⟨Nat.le_of_ble_eq_true rfl, Nat.le_of_ble_eq_true rfl⟩) (fun r9 u9 h9 => ?_)
    obtain ⟨rfl, rfl⟩ := h9
    exact ja_iret K (u) rfl (Nat.zero_le _) (Nat.zero_le _) dX0_count_50 hQ9 rfl ⟨by first | (simp only [jcount, hz0, hz1, hz2, hz3, hz4, if_false]; done) | (simp only [jcount]; rfl), rfl⟩
  · refine ja_tableIn K (off := 50) (tgt := 51) dX0_count_1 (by decide) (by decide) (by decide) (by decide) ?_
    refine ja_aload_n K 0 dX0_count_51 rfl ?_
    refine ja_get K hu9 0 rfl rfl 4 (by decide) (List.mem_cons_of_mem _ kfX0_24) rfl (congrArg (fun z9 => some (Value.int z9)) rK) dX0_count_52 ?_
    exact ja_iret K (u) rfl (Nat.zero_le _) (Nat.zero_le _) dX0_count_55 hQ9 rfl ⟨by first | (simp only [jcount, hz0, hz1, hz2, hz3, hz4, if_false]; done) | (simp only [jcount]; rfl), rfl⟩
  · refine ja_tableIn K (off := 55) (tgt := 56) dX0_count_1 (by decide) (by decide) (by decide) (by decide) ?_
    refine ja_aload_n K 0 dX0_count_56 rfl ?_
    refine ja_callVI K (q0 := 0) (qc := (RX0, TX0, 13)) (st := []) [] (jc_countMutations l D q cI cZ S (u) hW9 hS9) (cwV 0 K.1.2.2.2.2 (gX0_X0_countMutations _) rfl rfl rfl (by decide +kernel) (by rw [hR9]; exact ⟨Nat.le_of_ble_eq_true rfl, Nat.le_of_ble_eq_true rfl⟩)) rfl rfl rfl rfl rfl (Nat.le_of_ble_eq_true rfl) dX0_count_57 (by rw [hR9]; exact ⟨Nat.le_of_ble_eq_true rfl, Nat.le_of_ble_eq_true rfl⟩) (fun r9 u9 h9 => ?_)
    obtain ⟨rfl, rfl⟩ := h9
    exact ja_iret K (u) rfl (Nat.zero_le _) (Nat.zero_le _) dX0_count_60 hQ9 rfl ⟨by first | (simp only [jcount, hz0, hz1, hz2, hz3, hz4, if_false]; done) | (simp only [jcount]; rfl), rfl⟩
  · refine ja_tableOut K (tgt := 61) dX0_count_1 hz (by decide) ?_
    refine ja_iconst K (-1) dX0_count_61 (by decide) ?_
    exact ja_iret K (u) rfl (Nat.zero_le _) (Nat.zero_le _) dX0_count_62 hQ9 rfl ⟨by first | (simp only [jcount, hz0, hz1, hz2, hz3, hz4, if_false]; done) | (simp only [jcount]; rfl), rfl⟩
