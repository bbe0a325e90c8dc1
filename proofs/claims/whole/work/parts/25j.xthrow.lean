set_option maxRecDepth 100000 in
set_option maxHeartbeats 4000000 in
theorem jc_cut (l : Launch) (hst9 : l.stackTraces = false) (D : va_G) (q : Nat → Nat) (cI cZ : ClassId) (S : JS) (u : JX) (hW9 : jWf S) (hS9 : jxR1 S u) (z : Int32) : jkX l yX0_cut wsX0_cut ({ frames := 6, cells := 1, slots := 6, locals := 90 }) D vwCl (jxt cI cZ) jzs jtx (jxc q cI cZ) [.ref (q 0), .int z] (jxc q cI cZ u) (fun r u1 => (∃ x0, jcut S z = some x0 ∧ nI x0 = r) ∧ u = u1) (fun E u1 => u = u1 ∧ E = jEO ∧ jcut S z = none) := by
  refine jkX_of (cc := cX0_cut) (maxL := 4) (ret := (some .int)) (by decide) rfl (Nat.le_of_ble_eq_true rfl) ?_
  intro p e R s m args below meth c Q A K hn9 hR9 hEx9 hZ9 hQ9
  obtain ⟨rN, rT, rM, rU, rK, rP, rA, rL, rB⟩ := id hS9
  obtain ⟨wn, wt, wu, wk, wp, wl, wb⟩ := id hW9
  have hu9 : ∀ w ∈ u_ws RX0 TX0 13, w ∈ wsX0_cut := fun w h => List.mem_cons_of_mem _ (ku_X0 w h)
  show jaW p l e R s m args below meth c 0 0 Q D vwCl A 4 (jxc q cI cZ u) [(0, .ref (q 0)), (1, .int (z))] 0 []
  refine ja_iconst K (nI 0) dX0_cut_0 (by decide) ?_
  refine ja_istore_n K (lv1 := [(0, .ref (q 0)), (1, .int (z)), (2, .int (nI 0))]) dX0_cut_1 (by decide) rfl rfl ?_
  refine ja_iconst K (nI 0) dX0_cut_2 (by decide) ?_
  refine ja_istore_n K (lv1 := [(0, .ref (q 0)), (1, .int (z)), (2, .int (nI 0)), (3, .int (nI 0))]) dX0_cut_3 (by decide) rfl rfl ?_
  have L4 : ∀ (x : Nat), (x ≤ 60 ∧ jcf S z (60 - x) x = jcut S z) → jaW p l e R s m args below meth c 0 0 Q D vwCl A 4 (jxc q cI cZ u) [(0, .ref (q 0)), (1, .int (z)), (2, .int (nI ((jct (jsr S) x)))), (3, .int (nI (x)))] 4 [] := by
    refine jl_1 (fun (x : Nat) => 60 - x) (fun (x : Nat) => x ≤ 60 ∧ jcf S z (60 - x) x = jcut S z) _ ?_
    intro x hI4 IH4
    refine ja_iload_n K 3 dX0_cut_4 rfl ?_
    refine ja_bipush K (nI 60) dX0_cut_5 (by decide) ?_
    refine ja_icmp_ge K (tgt := 34) (60 ≤ x) dX0_cut_7 (by decide) (nI_leI (by omega) (by omega)) (fun h7 => ?_) (fun h7 => ?_)
    · refine ja_iload_n K 2 dX0_cut_34 rfl ?_
      refine ja_iload_n K 1 dX0_cut_35 rfl ?_
      refine ja_icmp_eq K (tgt := 49) (nI ((jct (jsr S) x)) = z) dX0_cut_36 (by decide) Iff.rfl (fun h36 => ?_) (fun h36 => ?_)
      · refine ja_bipush K (nI 60) dX0_cut_49 (by decide) ?_
        exact ja_iretX K (u) rfl (by rfl) (Nat.zero_le _) (Nat.zero_le _) dX0_cut_51 hQ9 rfl ⟨⟨60, by rw [← hI4.2, show 60 - x = 0 by omega]; simp only [jcf]; rw [if_pos (by rw [← h36, show x = 60 by omega])], rfl⟩, rfl⟩
      · exact ja_throwS K (names := jnm) (text := "no such run") (u) hst9 hEx9 hZ9 (by decide +kernel) (by decide +kernel) (List.mem_cons_of_mem _ kcX0_77) (List.mem_cons_of_mem _ kini_IOB) (by decide +kernel) (fun w h => List.mem_cons_of_mem _ (jvO1 w h)) jvO2 jvO3 dX0_cut_39 dX0_cut_42 dX0_cut_43 dX0_cut_45 dX0_cut_48 (by rw [hR9]; exact Nat.le_of_ble_eq_true rfl) (by rw [hR9]; exact Nat.le_of_ble_eq_true rfl) (by rw [hR9]; exact Nat.le_of_ble_eq_true rfl) (by rw [hR9]; exact Nat.le_of_ble_eq_true rfl) (Nat.le_of_ble_eq_true rfl) (Nat.le_of_ble_eq_true rfl) hQ9 rfl ⟨rfl, rfl, by rw [← hI4.2, show 60 - x = 0 by omega]; simp only [jcf]; rw [if_neg (by rw [show (60 : Nat) = x by omega]; exact h36)]⟩
    · refine ja_aload_n K 0 dX0_cut_10 rfl ?_
      refine ja_iload_n K 3 dX0_cut_11 rfl ?_
      refine ja_callVI K (q0 := 0) (qc := (RX0, TX0, 13)) (st := []) [.int (nI (x))] (jc_startsRun l D q cI cZ S (u) hW9 hS9 (x) (by omega)) (cwV 1 K.1.2.2.2.2 (gX0_X0_startsRun _) rfl rfl rfl (by decide +kernel) (by rw [hR9]; exact ⟨Nat.le_of_ble_eq_true rfl, Nat.le_of_ble_eq_true rfl⟩)) rfl rfl rfl rfl rfl (Nat.le_of_ble_eq_true rfl) dX0_cut_12 (by rw [hR9]; exact ⟨Nat.le_of_ble_eq_true rfl, Nat.le_of_ble_eq_true rfl⟩) (fun r9 u9 h9 => ?_)
      obtain ⟨rfl, rfl⟩ := h9
      refine ja_if_eq K (tgt := 28) (jsr S (x) = false) dX0_cut_15 (by decide) (jbI_ne _) (fun h15 => ?_) (fun h15 => ?_)
      · refine ja_iinc K (lv1 := [(0, .ref (q 0)), (1, .int (z)), (2, .int (nI ((jct (jsr S) x)))), (3, .int (nI ((x + 1))))]) 3 (nI ((x + 1))) dX0_cut_28 rfl (ja_inc _) (by decide) rfl rfl ?_
        refine ja_goto K (tgt := 4) dX0_cut_31 (by decide) ?_
        have e90 : jct (jsr S) (x + 1) = (jct (jsr S) x) := by simp [jct, h15]
        have k9 := IH4 (x + 1) ⟨by omega, by rw [← hI4.2, show 60 - x = (60 - (x + 1)) + 1 by omega]; simp only [jcf]; rw [if_neg (by simp [h15])]⟩ (by omega)
        rw [e90] at k9
        exact k9
      · refine ja_iload_n K 2 dX0_cut_18 rfl ?_
        refine ja_iload_n K 1 dX0_cut_19 rfl ?_
        refine ja_icmp_ne K (tgt := 25) (¬ nI ((jct (jsr S) x)) = z) dX0_cut_20 (by decide) Iff.rfl (fun h20 => ?_) (fun h20 => ?_)
        · refine ja_iinc K (lv1 := [(0, .ref (q 0)), (1, .int (z)), (2, .int (nI (((jct (jsr S) x) + 1)))), (3, .int (nI (x)))]) 2 (nI (((jct (jsr S) x) + 1))) dX0_cut_25 rfl (ja_inc _) (by decide) rfl rfl ?_
          refine ja_iinc K (lv1 := [(0, .ref (q 0)), (1, .int (z)), (2, .int (nI (((jct (jsr S) x) + 1)))), (3, .int (nI ((x + 1))))]) 3 (nI ((x + 1))) dX0_cut_28 rfl (ja_inc _) (by decide) rfl rfl ?_
          refine ja_goto K (tgt := 4) dX0_cut_31 (by decide) ?_
          have e90 : jct (jsr S) (x + 1) = ((jct (jsr S) x) + 1) := by simp [jct, h15]
          have k9 := IH4 (x + 1) ⟨by omega, by rw [← hI4.2, show 60 - x = (60 - (x + 1)) + 1 by omega]; simp only [jcf]; rw [if_neg (by simp [h20])]⟩ (by omega)
          rw [e90] at k9
          exact k9
        · refine ja_iload_n K 3 dX0_cut_23 rfl ?_
          exact ja_iretX K (u) rfl (by rfl) (Nat.zero_le _) (Nat.zero_le _) dX0_cut_24 hQ9 rfl ⟨⟨x, by rw [← hI4.2, show 60 - x = (59 - x) + 1 by omega]; simp only [jcf]; rw [if_pos ⟨by simpa using h15, by simpa using h20⟩], rfl⟩, rfl⟩
  exact L4 0 ⟨Nat.zero_le _, rfl⟩
