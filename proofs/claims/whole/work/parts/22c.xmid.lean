set_option maxRecDepth 100000 in
set_option maxHeartbeats 4000000 in
theorem jc_tallyLetters (l : Launch) (D : va_G) (q : Nat → Nat) (cI cZ : ClassId) (S : JS) (u : JX) (hW9 : jWf S) (hS9 : jxR1 S u) (i : Nat) (hi : i < jK S) : jkV l yX0_tallyLetters wsX0_tallyLetters ({ frames := 2, cells := 0, slots := 0, locals := 47 }) D vwCl (jxt cI cZ) (jxc q cI cZ) [.ref (q 0), .int (nI i)] (jxc q cI cZ u) (fun u1 => ∃ g, u1 = jxsY u g ∧ ∀ a, a < 4 → g a = nI (jtal (jM S) (jlf S i) (jN S) a)) := by
  refine jkV_of (cc := cX0_tallyLetters) (maxL := 3) (ret := none) (by decide) rfl (Nat.le_of_ble_eq_true rfl) ?_
  intro p e R s m args below meth c Q A K hn9 hR9 hQ9
  obtain ⟨rN, rT, rM, rU, rK, rP, rA, rL, rB⟩ := id hS9
  obtain ⟨wn, wt, wu, wk, wp, wl, wb⟩ := id hW9
  have hu9 : ∀ w ∈ u_ws RX0 TX0 13, w ∈ wsX0_tallyLetters := fun w h => List.mem_cons_of_mem _ (ku_X0 w h)
  show jaW p l e R s m args below meth c 0 0 Q D vwCl A 3 (jxc q cI cZ u) [(0, .ref (q 0)), (1, .int (nI (i)))] 0 []
  refine ja_aload_n K 0 dX0_tallyLetters_0 rfl ?_
  refine ja_get K hu9 0 rfl rfl 11 (by decide) (List.mem_cons_of_mem _ kfX0_45) rfl rfl dX0_tallyLetters_1 ?_
  refine ja_iconst K (nI 0) dX0_tallyLetters_4 (by decide) ?_
  refine jx_fillY K (by rw [hR9]; exact ⟨Nat.le_of_ble_eq_true rfl, Nat.le_of_ble_eq_true rfl⟩) (Nat.le_of_ble_eq_true rfl) dX0_tallyLetters_5 (by rw [hR9]; exact ⟨Nat.le_of_ble_eq_true rfl, Nat.le_of_ble_eq_true rfl⟩) (fun g5 hg5 => ?_)
  refine ja_iconst K (nI 0) dX0_tallyLetters_8 (by decide) ?_
  refine ja_istore_n K (lv1 := [(0, .ref (q 0)), (1, .int (nI (i))), (2, .int (nI 0))]) dX0_tallyLetters_9 (by decide) rfl rfl ?_
  have L10 : ∀ (n0 : Nat) (g : Nat → Int32), (n0 ≤ jN S ∧ ∀ a, a < 4 → g a = nI (jtal (jM S) (jlf S i) n0 a)) → jaW p l e R s m args below meth c 0 0 Q D vwCl A 3 (jxc q cI cZ (jxsY u g)) [(0, .ref (q 0)), (1, .int (nI (i))), (2, .int (nI (n0)))] 10 [] := by
    refine jl_2 (fun (n0 : Nat) (g : Nat → Int32) => jN S - n0) (fun (n0 : Nat) (g : Nat → Int32) => n0 ≤ jN S ∧ ∀ a, a < 4 → g a = nI (jtal (jM S) (jlf S i) n0 a)) _ ?_
    intro n0 g hI10 IH10
    refine ja_iload_n K 2 dX0_tallyLetters_10 rfl ?_
    refine ja_aload_n K 0 dX0_tallyLetters_11 rfl ?_
    refine ja_get K hu9 0 rfl rfl 0 (by decide) (List.mem_cons_of_mem _ kfX0_7) rfl (congrArg (fun z9 => some (Value.int z9)) rN) dX0_tallyLetters_12 ?_
    refine ja_icmp_ge K (tgt := 48) ((jN S) ≤ n0) dX0_tallyLetters_15 (by decide) (nI_leI (by omega) (by omega)) (fun h15 => ?_) (fun h15 => ?_)
    · exact ja_vret K (jxsY u g) rfl (Nat.zero_le _) (Nat.zero_le _) dX0_tallyLetters_48 hQ9 rfl ⟨g, rfl, fun a ha => by rw [hI10.2 a ha, show n0 = jN S by omega]⟩
    · refine ja_aload_n K 0 dX0_tallyLetters_18 rfl ?_
      refine ja_get K hu9 0 rfl rfl 2 (by decide) (List.mem_cons_of_mem _ kfX0_17) rfl rfl dX0_tallyLetters_19 ?_
      refine ja_iload_n K 2 dX0_tallyLetters_22 rfl ?_
      refine ja_zald K (v := jbI (jM S (n0))) 2 1 rfl rfl (n0) rfl (by omega) (by decide) (rM _ (by omega)) dX0_tallyLetters_23 ?_
      refine ja_if_eq K (tgt := 42) (jM S (n0) = false) dX0_tallyLetters_24 (by decide) (jbI_ne _) (fun h24 => ?_) (fun h24 => ?_)
      · refine ja_iinc K (lv1 := [(0, .ref (q 0)), (1, .int (nI (i))), (2, .int (nI ((n0 + 1))))]) 2 (nI ((n0 + 1))) dX0_tallyLetters_42 rfl (ja_inc _) (by decide) rfl rfl ?_
        refine ja_goto K (tgt := 10) dX0_tallyLetters_45 (by decide) ?_
        exact IH10 (n0 + 1) g ⟨by omega, fun a ha => by rw [jtal_f h24]; exact hI10.2 a ha⟩ (by omega)
      · refine ja_aload_n K 0 dX0_tallyLetters_27 rfl ?_
        refine ja_get K hu9 0 rfl rfl 11 (by decide) (List.mem_cons_of_mem _ kfX0_45) rfl rfl dX0_tallyLetters_28 ?_
        refine ja_aload_n K 0 dX0_tallyLetters_31 rfl ?_
        refine ja_iload_n K 1 dX0_tallyLetters_32 rfl ?_
        refine ja_iload_n K 2 dX0_tallyLetters_33 rfl ?_
        have bl := jlf_lt hW9 hi n0
        refine ja_callVI K (q0 := 0) (qc := (RX0, TX0, 13)) (st := [.ref (q 10)]) [.int (nI (i)), .int (nI (n0))] (jc_letterAt l D q cI cZ S (jxsY u g) hW9 hS9 (i) (n0) (by omega) (by omega)) (cwV 2 K.1.2.2.2.2 (gX0_X0_letterAt _) rfl rfl rfl (by decide +kernel) (by rw [hR9]; exact ⟨Nat.le_of_ble_eq_true rfl, Nat.le_of_ble_eq_true rfl⟩)) rfl rfl rfl rfl rfl (Nat.le_of_ble_eq_true rfl) dX0_tallyLetters_34 (by rw [hR9]; exact ⟨Nat.le_of_ble_eq_true rfl, Nat.le_of_ble_eq_true rfl⟩) (fun r9 u9 h9 => ?_)
        obtain ⟨rfl, rfl⟩ := h9
        refine ja_dup2 K dX0_tallyLetters_37 rfl rfl ?_
        refine ja_iald K (v := nI ((jtal (jM S) (jlf S i) n0 (jlf S i n0)))) 10 0 rfl rfl (jlf S i n0) rfl bl (by decide) (hI10.2 _ bl) dX0_tallyLetters_38 ?_
        refine ja_iconst K (nI 1) dX0_tallyLetters_39 (by decide) ?_
        refine ja_iadd K (nI (((jtal (jM S) (jlf S i) n0 (jlf S i n0)) + 1))) dX0_tallyLetters_40 (nI_add _ _) ?_
        refine ja_iast K (ws1 := jxc q cI cZ (jxsY u (upd g (jlf S i n0) (nI (((jtal (jM S) (jlf S i) n0 (jlf S i n0)) + 1)))))) 10 0 rfl rfl (jlf S i n0) rfl bl (by decide) dX0_tallyLetters_41 rfl ?_
        refine ja_iinc K (lv1 := [(0, .ref (q 0)), (1, .int (nI (i))), (2, .int (nI ((n0 + 1))))]) 2 (nI ((n0 + 1))) dX0_tallyLetters_42 rfl (ja_inc _) (by decide) rfl rfl ?_
        refine ja_goto K (tgt := 10) dX0_tallyLetters_45 (by decide) ?_
        exact IH10 (n0 + 1) (upd g (jlf S i n0) (nI (jtal (jM S) (jlf S i) n0 (jlf S i n0) + 1))) ⟨by omega, fun a ha => by
          have h8 : jM S n0 = true := by simpa using h24
          by_cases q1 : a = jlf S i n0
          · subst q1; rw [jtal_t h8]; exact pk_us
          · rw [pk_un q1, jtal_n h8 q1]; exact hI10.2 a ha⟩ (by omega)
  exact L10 0 g5 ⟨Nat.zero_le _, fun a ha => hg5 a ha⟩
