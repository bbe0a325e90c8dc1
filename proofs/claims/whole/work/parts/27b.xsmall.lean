set_option maxRecDepth 100000 in
set_option maxHeartbeats 4000000 in
theorem jc_nearest (l : Launch) (D : va_G) (q : Nat → Nat) (cI cZ : ClassId) (S : JS) (u : JX) (hW9 : jWf S)   (k9 x c0 : Nat) (hS9 : jxPh S k9 x u) (hx : x < 60) (hc : c0 < jN S) : jkI l yX0_nearestMatteringAbove wsX0_nearestMatteringAbove ({ frames := 1, cells := 0, slots := 0, locals := 22 }) D vwCl (jxt cI cZ) (jxc q cI cZ) [.ref (q 0), .int (nI x), .int (nI c0)] (jxc q cI cZ u) (fun r u1 => jeI (jnear S x c0) = r ∧ u = u1) := by
  refine jkI_of (cc := cX0_nearestMatteringAbove) (maxL := 5) (ret := (some .int)) (by decide) rfl (Nat.le_of_ble_eq_true rfl) ?_
  intro p e R s m args below meth c Q A K hn9 hR9 hQ9
  obtain ⟨rN, rT, rM, rU, rK, rP, rA, rL, rB, rG⟩ := id hS9
  obtain ⟨wn, wt, wu, wk, wp, wl, wb⟩ := id hW9
  have hu9 : ∀ w ∈ u_ws RX0 TX0 13, w ∈ wsX0_nearestMatteringAbove := fun w h => List.mem_cons_of_mem _ (ku_X0 w h)
  obtain ⟨B, hG, hB⟩ := rG x hx
  show jaW p l e R s m args below meth c 0 0 Q D vwCl A 5 (jxc q cI cZ u) [(0, .ref (q 0)), (1, .int (nI (x))), (2, .int (nI (c0)))] 0 []
  refine ja_aload_n K 0 dX0_nearestMatteringAbove_0 rfl ?_
  refine ja_iload_n K 1 dX0_nearestMatteringAbove_1 rfl ?_
  refine ja_iload_n K 2 dX0_nearestMatteringAbove_2 rfl ?_
  refine ja_callVI K (q0 := 0) (qc := (RX0, TX0, 13)) (st := []) [.int (nI (x)), .int (nI (c0))] (jc_parentAt l D q cI cZ (u) (x) (c0) (by omega) (by omega) (jU S (x) (c0)) (by have h9 := rU (x) (c0) (by omega) (by omega); rw [if_neg (by omega)] at h9; exact h9)) (cwV 2 K.1.2.2.2.2 (gX0_X0_parentAt _) rfl rfl rfl (by decide +kernel) (by rw [hR9]; exact ⟨Nat.le_of_ble_eq_true rfl, Nat.le_of_ble_eq_true rfl⟩)) rfl rfl rfl rfl rfl (Nat.le_of_ble_eq_true rfl) dX0_nearestMatteringAbove_3 (by rw [hR9]; exact ⟨Nat.le_of_ble_eq_true rfl, Nat.le_of_ble_eq_true rfl⟩) (fun r9 u9 h9 => ?_)
  obtain ⟨rfl, rfl⟩ := h9
  refine ja_istore_n K (lv1 := [(0, .ref (q 0)), (1, .int (nI (x))), (2, .int (nI (c0))), (3, .int (jeI (jU S (x) (c0))))]) dX0_nearestMatteringAbove_6 (by decide) rfl rfl ?_
  refine ja_iconst K (nI 0) dX0_nearestMatteringAbove_7 (by decide) ?_
  refine ja_istore K (lv1 := [(0, .ref (q 0)), (1, .int (nI (x))), (2, .int (nI (c0))), (3, .int (jeI (jU S (x) (c0)))), (4, .int (nI 0))]) dX0_nearestMatteringAbove_8 (by decide) rfl rfl ?_
  have L10 : ∀ (k : Nat) (d0 : Nat) (o : Option Nat), (k + d0 = 14 ∧ (∀ y, o = some y → y < jN S ∧ jht (jN S) (jT S) y + k < 14) ∧ jpF (jU S x) (jmatS S x) d0 o = jnear S x c0) → jaW p l e R s m args below meth c 0 0 Q D vwCl A 5 (jxc q cI cZ u) [(0, .ref (q 0)), (1, .int (nI (x))), (2, .int (nI (c0))), (3, .int (jeI (o))), (4, .int (nI (k)))] 10 [] := by
    refine jl_3 (fun (k : Nat) (d0 : Nat) (o : Option Nat) => d0) (fun (k : Nat) (d0 : Nat) (o : Option Nat) => k + d0 = 14 ∧ (∀ y, o = some y → y < jN S ∧ jht (jN S) (jT S) y + k < 14) ∧ jpF (jU S x) (jmatS S x) d0 o = jnear S x c0) _ ?_
    intro k d0 o hI10 IH10
    refine ja_iload K 4 dX0_nearestMatteringAbove_10 rfl ?_
    refine ja_bipush K (nI 14) dX0_nearestMatteringAbove_12 (by decide) ?_
    refine ja_icmp_ge K (tgt := 44) (14 ≤ k) dX0_nearestMatteringAbove_14 (by decide) (nI_leI (by omega) (by omega)) (fun h14 => ?_) (fun h14 => ?_)
    · obtain rfl : d0 = 0 := by omega
      obtain rfl : o = none := by
        cases o with
        | none => rfl
        | some y => have := (hI10.2.1 y rfl).2; omega
      refine ja_iload_n K 3 dX0_nearestMatteringAbove_44 rfl ?_
      exact ja_iret K (u) rfl (Nat.zero_le _) (Nat.zero_le _) dX0_nearestMatteringAbove_45 hQ9 rfl ⟨by rw [← hI10.2.2]; first | (simp [jpF, jeI]; done) | (simp [jpF, h28, jeI]), rfl⟩
    · obtain ⟨d, rfl⟩ : ∃ d1, d0 = d1 + 1 := ⟨d0 - 1, by omega⟩
      refine ja_iload_n K 3 dX0_nearestMatteringAbove_17 rfl ?_
      refine ja_iconst K (-1) dX0_nearestMatteringAbove_18 (by decide) ?_
      refine ja_icmp_eq K (tgt := 44) (o = none) dX0_nearestMatteringAbove_19 (by decide) (jeI_m1 (o := o) (fun p9 h9 => by have := hI10.2.1 p9 h9; omega)) (fun h19 => ?_) (fun h19 => ?_)
      · subst h19
        refine ja_iload_n K 3 dX0_nearestMatteringAbove_44 rfl ?_
        exact ja_iret K (u) rfl (Nat.zero_le _) (Nat.zero_le _) dX0_nearestMatteringAbove_45 hQ9 rfl ⟨by rw [← hI10.2.2]; first | (simp [jpF, jeI]; done) | (simp [jpF, h28, jeI]), rfl⟩
      · obtain ⟨y19, rfl⟩ := Option.ne_none_iff_exists'.mp h19
        have by19 := hI10.2.1 y19 rfl
        refine ja_aload_n K 0 dX0_nearestMatteringAbove_22 rfl ?_
        refine ja_iload_n K 1 dX0_nearestMatteringAbove_23 rfl ?_
        refine ja_iload_n K 3 dX0_nearestMatteringAbove_24 rfl ?_
        refine ja_callVI K (q0 := 0) (qc := (RX0, TX0, 13)) (st := []) [.int (nI (x)), .int (nI (y19))] (jc_matters l D q cI cZ (u) (x) (y19) B (by omega) (by omega) hB.1 hG) (cwV 2 K.1.2.2.2.2 (gX0_X0_matters _) rfl rfl rfl (by decide +kernel) (by rw [hR9]; exact ⟨Nat.le_of_ble_eq_true rfl, Nat.le_of_ble_eq_true rfl⟩)) rfl rfl rfl rfl rfl (Nat.le_of_ble_eq_true rfl) dX0_nearestMatteringAbove_25 (by rw [hR9]; exact ⟨Nat.le_of_ble_eq_true rfl, Nat.le_of_ble_eq_true rfl⟩) (fun r9 u9 h9 => ?_)
        rw [jbt_at hB (by omega)] at h9
        obtain ⟨rfl, rfl⟩ := h9
        refine ja_if_ne K (tgt := 44) (jmatS S (x) (y19) = true) dX0_nearestMatteringAbove_28 (by decide) (jbI_nz _) (fun h28 => ?_) (fun h28 => ?_)
        · refine ja_iload_n K 3 dX0_nearestMatteringAbove_44 rfl ?_
          exact ja_iret K (u) rfl (Nat.zero_le _) (Nat.zero_le _) dX0_nearestMatteringAbove_45 hQ9 rfl ⟨by rw [← hI10.2.2]; first | (simp [jpF, jeI]; done) | (simp [jpF, h28, jeI]), rfl⟩
        · simp only [Bool.not_eq_true] at h28
          refine ja_aload_n K 0 dX0_nearestMatteringAbove_31 rfl ?_
          refine ja_iload_n K 1 dX0_nearestMatteringAbove_32 rfl ?_
          refine ja_iload_n K 3 dX0_nearestMatteringAbove_33 rfl ?_
          refine ja_callVI K (q0 := 0) (qc := (RX0, TX0, 13)) (st := []) [.int (nI (x)), .int (nI (y19))] (jc_parentAt l D q cI cZ (u) (x) (y19) (by omega) (by omega) (jU S (x) (y19)) (by have h9 := rU (x) (y19) (by omega) (by omega); rw [if_neg (by omega)] at h9; exact h9)) (cwV 2 K.1.2.2.2.2 (gX0_X0_parentAt _) rfl rfl rfl (by decide +kernel) (by rw [hR9]; exact ⟨Nat.le_of_ble_eq_true rfl, Nat.le_of_ble_eq_true rfl⟩)) rfl rfl rfl rfl rfl (Nat.le_of_ble_eq_true rfl) dX0_nearestMatteringAbove_34 (by rw [hR9]; exact ⟨Nat.le_of_ble_eq_true rfl, Nat.le_of_ble_eq_true rfl⟩) (fun r9 u9 h9 => ?_)
          obtain ⟨rfl, rfl⟩ := h9
          refine ja_istore_n K (lv1 := [(0, .ref (q 0)), (1, .int (nI (x))), (2, .int (nI (c0))), (3, .int (jeI (jU S (x) (y19)))), (4, .int (nI (k)))]) dX0_nearestMatteringAbove_37 (by decide) rfl rfl ?_
          refine ja_iinc K (lv1 := [(0, .ref (q 0)), (1, .int (nI (x))), (2, .int (nI (c0))), (3, .int (jeI (jU S (x) (y19)))), (4, .int (nI ((k + 1))))]) 4 (nI ((k + 1))) dX0_nearestMatteringAbove_38 rfl (ja_inc _) (by decide) rfl rfl ?_
          refine ja_goto K (tgt := 10) dX0_nearestMatteringAbove_41 (by decide) ?_
          have k9 := IH10 (k + 1) d (jU S x y19) ⟨by omega, fun z hz => ⟨(wu _ _ z hz).2.1, by have := jht_up (jup_S hW9 x) hz; omega⟩, by rw [← hI10.2.2]; simp [jpF, h28]⟩ (by omega)
          exact k9
  exact L10 0 14 (jU S x c0) ⟨rfl, fun y h => ⟨(wu _ _ y h).2.1, by have := jup_h hW9 h hc; omega⟩, rfl⟩
