set_option maxRecDepth 100000 in
set_option maxHeartbeats 4000000 in
theorem jc_edge (l : Launch) (hst9 : l.stackTraces = false) (D : va_G) (q : Nat → Nat) (cI cZ : ClassId) (S : JS) (u : JX) (hW9 : jWf S) (hS9 : jxR1 S u) (z w : Int32) : jkX l yX0_edge wsX0_edge ({ frames := 6, cells := 1, slots := 6, locals := 90 }) D vwCl (jxt cI cZ) jzs jtx (jxc q cI cZ) [.ref (q 0), .int z, .int w] (jxc q cI cZ u) (fun r u1 => jged S z w = some r ∧ u = u1) (fun E u1 => u = u1 ∧ E = jEO ∧ jged S z w = none) := by
  refine jkX_of (cc := cX0_edge) (maxL := 6) (ret := (some .int)) (by decide) rfl (Nat.le_of_ble_eq_true rfl) ?_
  intro p e R s m args below meth c Q A K hn9 hR9 hEx9 hZ9 hQ9
  obtain ⟨rN, rT, rM, rU, rK, rP, rA, rL, rB⟩ := id hS9
  obtain ⟨wn, wt, wu, wk, wp, wl, wb⟩ := id hW9
  have hu9 : ∀ w ∈ u_ws RX0 TX0 13, w ∈ wsX0_edge := fun w h => List.mem_cons_of_mem _ (ku_X0 w h)
  show jaW p l e R s m args below meth c 0 0 Q D vwCl A 6 (jxc q cI cZ u) [(0, .ref (q 0)), (1, .int (z)), (2, .int (w))] 0 []
  refine ja_aload_n K 0 dX0_edge_0 rfl ?_
  refine ja_iload_n K 1 dX0_edge_1 rfl ?_
  refine ja_callVI K (q0 := 0) (qc := (RX0, TX0, 13)) (st := []) [.int (z)] (jc_findEdge l D q cI cZ S (u) hW9 hS9 (z)) (cwV 1 K.1.2.2.2.2 (gX0_X0_findEdge _) rfl rfl rfl (by decide +kernel) (by rw [hR9]; exact ⟨Nat.le_of_ble_eq_true rfl, Nat.le_of_ble_eq_true rfl⟩)) rfl rfl rfl rfl rfl (Nat.le_of_ble_eq_true rfl) dX0_edge_2 (by rw [hR9]; exact ⟨Nat.le_of_ble_eq_true rfl, Nat.le_of_ble_eq_true rfl⟩) (fun r9 u9 h9 => ?_)
  obtain ⟨rfl, rfl⟩ := h9
  refine ja_istore_n K (lv1 := [(0, .ref (q 0)), (1, .int (z)), (2, .int (w)), (3, .int (jeI (jgn S (z))))]) dX0_edge_5 (by decide) rfl rfl ?_
  refine ja_iload_n K 3 dX0_edge_6 rfl ?_
  refine ja_iconst K (-1) dX0_edge_7 (by decide) ?_
  refine ja_icmp_eq K (tgt := 20) (jgn S (z) = none) dX0_edge_8 (by decide) (jeI_m1 (o := jgn S (z)) (fun p9 h9 => by have := (jgn_b hW9 h9); omega)) (fun h8 => ?_) (fun h8 => ?_)
  · exact ja_throwS K (names := jnm) (text := "no such edge, or nothing that an edge has") (u) hst9 hEx9 hZ9 (by decide +kernel) (by decide +kernel) (List.mem_cons_of_mem _ kcX0_77) (List.mem_cons_of_mem _ kini_IOB) (by decide +kernel) (fun w h => List.mem_cons_of_mem _ (jvO1 w h)) jvO2 jvO3 dX0_edge_20 dX0_edge_23 dX0_edge_24 dX0_edge_26 dX0_edge_29 (by rw [hR9]; exact Nat.le_of_ble_eq_true rfl) (by rw [hR9]; exact Nat.le_of_ble_eq_true rfl) (by rw [hR9]; exact Nat.le_of_ble_eq_true rfl) (by rw [hR9]; exact Nat.le_of_ble_eq_true rfl) (Nat.le_of_ble_eq_true rfl) (Nat.le_of_ble_eq_true rfl) hQ9 rfl ⟨rfl, rfl, by rw [jged_0 (Option.map_eq_none_iff.mp h8)]⟩
  · obtain ⟨y8, ey8⟩ := Option.ne_none_iff_exists'.mp h8
    try rw [ey8]
    have by8 := (jgn_b hW9 ey8)
    obtain ⟨⟨x0, c0⟩, ge, gy⟩ := Option.map_eq_some_iff.mp ey8
    obtain rfl : x0 * 14 + c0 = y8 := gy
    obtain ⟨bx, bc, p0, bp⟩ := jge_mem ge
    simp only at bx bc bp
    have bc2 : c0 < 14 := by omega
    refine ja_iload_n K 2 dX0_edge_11 rfl ?_
    refine ja_if_lt K (tgt := 20) (w < 0) dX0_edge_12 (by decide) Iff.rfl (fun h12 => ?_) (fun h12 => ?_)
    · have f12 : jin w 4 = false := jin_ff1 h12
      exact ja_throwS K (names := jnm) (text := "no such edge, or nothing that an edge has") (u) hst9 hEx9 hZ9 (by decide +kernel) (by decide +kernel) (List.mem_cons_of_mem _ kcX0_77) (List.mem_cons_of_mem _ kini_IOB) (by decide +kernel) (fun w h => List.mem_cons_of_mem _ (jvO1 w h)) jvO2 jvO3 dX0_edge_20 dX0_edge_23 dX0_edge_24 dX0_edge_26 dX0_edge_29 (by rw [hR9]; exact Nat.le_of_ble_eq_true rfl) (by rw [hR9]; exact Nat.le_of_ble_eq_true rfl) (by rw [hR9]; exact Nat.le_of_ble_eq_true rfl) (by rw [hR9]; exact Nat.le_of_ble_eq_true rfl) (Nat.le_of_ble_eq_true rfl) (Nat.le_of_ble_eq_true rfl) hQ9 rfl ⟨rfl, rfl, by rw [jged_1 f12]⟩
    · refine ja_iload_n K 2 dX0_edge_15 rfl ?_
      refine ja_iconst K (nI 3) dX0_edge_16 (by decide) ?_
      refine ja_icmp_le K (tgt := 30) (w ≤ nI 3) dX0_edge_17 (by decide) Iff.rfl (fun h17 => ?_) (fun h17 => ?_)
      · have f17 : jin w 4 = true := jin_le h12 h17
        obtain ⟨w0, hw0, rfl⟩ := jin_of f17 (by omega)
        refine ja_iload_n K 3 dX0_edge_30 rfl ?_
        refine ja_bipush K (nI 14) dX0_edge_31 (by decide) ?_
        refine ja_idiv K (nI (x0)) dX0_edge_33 (by decide) (by show nI (x0 * 14 + c0) / nI 14 = nI x0; rw [pk_div (by omega) (by omega) (by omega), show (x0 * 14 + c0) / 14 = x0 by omega]) ?_
        refine ja_istore K (lv1 := [(0, .ref (q 0)), (1, .int (z)), (2, .int (nI (w0))), (3, .int (nI (((x0 * 14) + c0)))), (4, .int (nI (x0)))]) dX0_edge_34 (by decide) rfl rfl ?_
        refine ja_iload_n K 3 dX0_edge_36 rfl ?_
        refine ja_bipush K (nI 14) dX0_edge_37 (by decide) ?_
        refine ja_irem K (nI (c0)) dX0_edge_39 (by decide) (by show nI (x0 * 14 + c0) - nI (x0 * 14 + c0) / nI 14 * nI 14 = nI c0; rw [pk_rem (by omega) (by omega) (by omega), show (x0 * 14 + c0) % 14 = c0 by omega]) ?_
        refine ja_istore K (lv1 := [(0, .ref (q 0)), (1, .int (z)), (2, .int (nI (w0))), (3, .int (nI (((x0 * 14) + c0)))), (4, .int (nI (x0))), (5, .int (nI (c0)))]) dX0_edge_40 (by decide) rfl rfl ?_
        refine ja_iload_n K 2 dX0_edge_42 rfl ?_
        obtain rfl | rfl | rfl | rfl : w0 = 0 ∨ w0 = 1 ∨ w0 = 2 ∨ w0 = 3 := by omega
        · refine ja_tableIn K (off := 25) (tgt := 68) dX0_edge_43 (by decide) (by decide) (by decide) (by decide) ?_
          refine ja_iload K 4 dX0_edge_68 rfl ?_
          exact ja_iretX K (u) rfl (by rfl) (Nat.zero_le _) (Nat.zero_le _) dX0_edge_70 hQ9 rfl ⟨by rw [jged_2 ge f17]; rfl, rfl⟩
        · refine ja_tableIn K (off := 28) (tgt := 71) dX0_edge_43 (by decide) (by decide) (by decide) (by decide) ?_
          refine ja_aload_n K 0 dX0_edge_71 rfl ?_
          refine ja_iload K 4 dX0_edge_72 rfl ?_
          refine ja_iload K 5 dX0_edge_74 rfl ?_
          refine ja_callVI K (q0 := 0) (qc := (RX0, TX0, 13)) (st := []) [.int (nI (x0)), .int (nI (c0))] (jc_edgeEnd l D q cI cZ S (u) hW9 hS9 (x0) (c0) (by omega) (by omega)) (cwV 2 K.1.2.2.2.2 (gX0_X0_edgeEnd _) rfl rfl rfl (by decide +kernel) (by rw [hR9]; exact ⟨Nat.le_of_ble_eq_true rfl, Nat.le_of_ble_eq_true rfl⟩)) rfl rfl rfl rfl rfl (Nat.le_of_ble_eq_true rfl) dX0_edge_76 (by rw [hR9]; exact ⟨Nat.le_of_ble_eq_true rfl, Nat.le_of_ble_eq_true rfl⟩) (fun r9 u9 h9 => ?_)
          obtain ⟨rfl, rfl⟩ := h9
          exact ja_iretX K (u) rfl (by rfl) (Nat.zero_le _) (Nat.zero_le _) dX0_edge_79 hQ9 rfl ⟨by rw [jged_2 ge f17]; rfl, rfl⟩
        · refine ja_tableIn K (off := 37) (tgt := 80) dX0_edge_43 (by decide) (by decide) (by decide) (by decide) ?_
          refine ja_aload_n K 0 dX0_edge_80 rfl ?_
          refine ja_iload K 4 dX0_edge_81 rfl ?_
          refine ja_iload K 5 dX0_edge_83 rfl ?_
          refine ja_callVI K (q0 := 0) (qc := (RX0, TX0, 13)) (st := []) [.int (nI (x0)), .int (nI (c0))] (jc_parentAt l D q cI cZ (u) (x0) (c0) (by omega) (by omega) (jU S (x0) (c0)) (rU _ _ (by omega) (by omega))) (cwV 2 K.1.2.2.2.2 (gX0_X0_parentAt _) rfl rfl rfl (by decide +kernel) (by rw [hR9]; exact ⟨Nat.le_of_ble_eq_true rfl, Nat.le_of_ble_eq_true rfl⟩)) rfl rfl rfl rfl rfl (Nat.le_of_ble_eq_true rfl) dX0_edge_85 (by rw [hR9]; exact ⟨Nat.le_of_ble_eq_true rfl, Nat.le_of_ble_eq_true rfl⟩) (fun r9 u9 h9 => ?_)
          obtain ⟨rfl, rfl⟩ := h9
          exact ja_iretX K (u) rfl (by rfl) (Nat.zero_le _) (Nat.zero_le _) dX0_edge_88 hQ9 rfl ⟨by rw [jged_2 ge f17]; rfl, rfl⟩
        · refine ja_tableOut K (tgt := 89) dX0_edge_43 (by decide) (by decide) ?_
          refine ja_iload K 5 dX0_edge_89 rfl ?_
          exact ja_iretX K (u) rfl (by rfl) (Nat.zero_le _) (Nat.zero_le _) dX0_edge_91 hQ9 rfl ⟨by rw [jged_2 ge f17]; rfl, rfl⟩
      · have f17 : jin w 4 = false := jin_ff3 (by decide) h17
        exact ja_throwS K (names := jnm) (text := "no such edge, or nothing that an edge has") (u) hst9 hEx9 hZ9 (by decide +kernel) (by decide +kernel) (List.mem_cons_of_mem _ kcX0_77) (List.mem_cons_of_mem _ kini_IOB) (by decide +kernel) (fun w h => List.mem_cons_of_mem _ (jvO1 w h)) jvO2 jvO3 dX0_edge_20 dX0_edge_23 dX0_edge_24 dX0_edge_26 dX0_edge_29 (by rw [hR9]; exact Nat.le_of_ble_eq_true rfl) (by rw [hR9]; exact Nat.le_of_ble_eq_true rfl) (by rw [hR9]; exact Nat.le_of_ble_eq_true rfl) (by rw [hR9]; exact Nat.le_of_ble_eq_true rfl) (Nat.le_of_ble_eq_true rfl) (Nat.le_of_ble_eq_true rfl) hQ9 rfl ⟨rfl, rfl, by rw [jged_1 f17]⟩
