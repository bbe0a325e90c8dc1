set_option maxRecDepth 100000 in
set_option maxHeartbeats 4000000 in
theorem jc_differing (l : Launch) (D : va_G) (q : Nat → Nat) (cI cZ : ClassId) (S : JS) (u : JX) (hW9 : jWf S) (hS9 : jxR1 S u)  : jkI l yX0_differing wsX0_differing ({ frames := 3, cells := 0, slots := 0, locals := 69 }) D vwCl (jxt cI cZ) (jxc q cI cZ) [.ref (q 0)] (jxc q cI cZ u) (fun r u1 => nI (jdif S) = r ∧ jxR1 S u1) := by
  refine jkI_of (cc := cX0_differing) (maxL := 5) (ret := (some .int)) (by decide) rfl (Nat.le_of_ble_eq_true rfl) ?_
  intro p e R s m args below meth c Q A K hn9 hR9 hQ9
  obtain ⟨rN, rT, rM, rU, rK, rP, rA, rL, rB⟩ := id hS9
  obtain ⟨wn, wt, wu, wk, wp, wl, wb⟩ := id hW9
  have hu9 : ∀ w ∈ u_ws RX0 TX0 13, w ∈ wsX0_differing := fun w h => List.mem_cons_of_mem _ (ku_X0 w h)
  show jaW p l e R s m args below meth c 0 0 Q D vwCl A 5 (jxc q cI cZ u) [(0, .ref (q 0))] 0 []
  refine ja_iconst K (nI 0) dX0_differing_0 (by decide) ?_
  refine ja_istore_n K (lv1 := [(0, .ref (q 0)), (1, .int (nI 0))]) dX0_differing_1 (by decide) rfl rfl ?_
  refine ja_iconst K (nI 0) dX0_differing_2 (by decide) ?_
  refine ja_istore_n K (lv1 := [(0, .ref (q 0)), (1, .int (nI 0)), (2, .int (nI 0))]) dX0_differing_3 (by decide) rfl rfl ?_
  have L4 : ∀ (i : Nat) (v : JX), (i ≤ jK S ∧ jxR1 S v) → jaW p l e R s m args below meth c 0 0 Q D vwCl A 5 (jxc q cI cZ v) [(0, .ref (q 0)), (1, .int (nI ((jsm (fun i => jprs (jM S) (jlf S i) (jN S)) i)))), (2, .int (nI (i)))] 4 [] := by
    refine jl_2 (fun (i : Nat) (v : JX) => jK S - i) (fun (i : Nat) (v : JX) => i ≤ jK S ∧ jxR1 S v) _ ?_
    intro i v hI4 IH4
    obtain ⟨rN, rT, rM, rU, rK, rP, rA, rL, rB⟩ := id hI4.2
    refine ja_iload_n K 2 dX0_differing_4 rfl ?_
    refine ja_aload_n K 0 dX0_differing_5 rfl ?_
    refine ja_get K hu9 0 rfl rfl 4 (by decide) (List.mem_cons_of_mem _ kfX0_24) rfl (congrArg (fun z9 => some (Value.int z9)) rK) dX0_differing_6 ?_
    refine ja_icmp_ge K (tgt := 62) ((jK S) ≤ i) dX0_differing_9 (by decide) (nI_leI (by omega) (by omega)) (fun h9 => ?_) (fun h9 => ?_)
    · refine ja_iload_n K 1 dX0_differing_62 rfl ?_
      exact ja_iret K (v) rfl (Nat.zero_le _) (Nat.zero_le _) dX0_differing_63 hQ9 rfl ⟨by rw [jdif, show i = jK S by omega], hI4.2⟩
    · refine ja_aload_n K 0 dX0_differing_12 rfl ?_
      refine ja_iload_n K 2 dX0_differing_13 rfl ?_
      refine ja_callVV K (q0 := 0) (qc := (RX0, TX0, 13)) (st := []) [.int (nI (i))] (jc_tallyLetters l D q cI cZ S (v) hW9 hI4.2 (i) (by omega)) (cwV 1 K.1.2.2.2.2 (gX0_X0_tallyLetters _) rfl rfl rfl (by decide +kernel) (by rw [hR9]; exact ⟨Nat.le_of_ble_eq_true rfl, Nat.le_of_ble_eq_true rfl⟩)) rfl rfl rfl rfl rfl (Nat.le_of_ble_eq_true rfl) dX0_differing_14 (by rw [hR9]; exact ⟨Nat.le_of_ble_eq_true rfl, Nat.le_of_ble_eq_true rfl⟩) (fun u9 h9 => ?_)
      obtain ⟨g14, rfl, hg14⟩ := h9
      refine ja_iconst K (nI 0) dX0_differing_17 (by decide) ?_
      refine ja_istore_n K (lv1 := [(0, .ref (q 0)), (1, .int (nI ((jsm (fun i => jprs (jM S) (jlf S i) (jN S)) i)))), (2, .int (nI (i))), (3, .int (nI 0))]) dX0_differing_18 (by decide) rfl rfl ?_
      refine ja_iconst K (nI 0) dX0_differing_19 (by decide) ?_
      refine ja_istore K (lv1 := [(0, .ref (q 0)), (1, .int (nI ((jsm (fun i => jprs (jM S) (jlf S i) (jN S)) i)))), (2, .int (nI (i))), (3, .int (nI 0)), (4, .int (nI 0))]) dX0_differing_20 (by decide) rfl rfl ?_
      have L22 : ∀ (a : Nat), (a ≤ 4) → jaW p l e R s m args below meth c 0 0 Q D vwCl A 5 (jxc q cI cZ (jxsY v g14)) [(0, .ref (q 0)), (1, .int (nI ((jsm (fun i => jprs (jM S) (jlf S i) (jN S)) i + jsm (fun a => jsm (fun b => jtal (jM S) (jlf S i) (jN S) b) a * jtal (jM S) (jlf S i) (jN S) a) a)))), (2, .int (nI (i))), (3, .int (nI ((jsm (fun b => jtal (jM S) (jlf S i) (jN S) b) a)))), (4, .int (nI (a)))] 22 [] := by
        refine jl_1 (fun (a : Nat) => 4 - a) (fun (a : Nat) => a ≤ 4) _ ?_
        intro a hI22 IH22
        refine ja_iload K 4 dX0_differing_22 rfl ?_
        refine ja_iconst K (nI 4) dX0_differing_24 (by decide) ?_
        refine ja_icmp_ge K (tgt := 56) (4 ≤ a) dX0_differing_25 (by decide) (nI_leI (by omega) (by omega)) (fun h25 => ?_) (fun h25 => ?_)
        · refine ja_iinc K (lv1 := [(0, .ref (q 0)), (1, .int (nI ((jsm (fun i => jprs (jM S) (jlf S i) (jN S)) i + jsm (fun a => jsm (fun b => jtal (jM S) (jlf S i) (jN S) b) a * jtal (jM S) (jlf S i) (jN S) a) a)))), (2, .int (nI ((i + 1)))), (3, .int (nI ((jsm (fun b => jtal (jM S) (jlf S i) (jN S) b) a)))), (4, .int (nI (a)))]) 2 (nI ((i + 1))) dX0_differing_56 rfl (ja_inc _) (by decide) rfl rfl ?_
          refine ja_goto K (tgt := 4) dX0_differing_59 (by decide) ?_
          refine ja_locals (lv1 := [(0, .ref (q 0)), (1, .int (nI ((jsm (fun i => jprs (jM S) (jlf S i) (jN S)) i + jsm (fun a => jsm (fun b => jtal (jM S) (jlf S i) (jN S) b) a * jtal (jM S) (jlf S i) (jN S) a) a)))), (2, .int (nI ((i + 1))))]) [0, 1, 2] rfl ?_
          have e90 : jsm (fun i => jprs (jM S) (jlf S i) (jN S)) (i + 1) = (jsm (fun i => jprs (jM S) (jlf S i) (jN S)) i + jsm (fun a => jsm (fun b => jtal (jM S) (jlf S i) (jN S) b) a * jtal (jM S) (jlf S i) (jN S) a) a) := by rw [show a = 4 by omega, jdif_4 hW9 (by omega)]; rfl
          have k9 := IH4 (i + 1) (jxsY v g14) ⟨by omega, hI4.2⟩ (by omega)
          rw [e90] at k9
          exact k9
        · refine ja_iload_n K 1 dX0_differing_28 rfl ?_
          refine ja_iload_n K 3 dX0_differing_29 rfl ?_
          refine ja_aload_n K 0 dX0_differing_30 rfl ?_
          refine ja_get K hu9 0 rfl rfl 11 (by decide) (List.mem_cons_of_mem _ kfX0_45) rfl rfl dX0_differing_31 ?_
          refine ja_iload K 4 dX0_differing_34 rfl ?_
          refine ja_iald K (v := nI ((jtal (jM S) (jlf S i) (jN S) a))) 10 0 rfl rfl (a) rfl (by omega) (by decide) (hg14 _ (by omega)) dX0_differing_36 ?_
          refine ja_imul K (nI (((jsm (fun b => jtal (jM S) (jlf S i) (jN S) b) a) * (jtal (jM S) (jlf S i) (jN S) a)))) dX0_differing_37 (pk_mul _ _) ?_
          refine ja_iadd K (nI (((jsm (fun i => jprs (jM S) (jlf S i) (jN S)) i + jsm (fun a => jsm (fun b => jtal (jM S) (jlf S i) (jN S) b) a * jtal (jM S) (jlf S i) (jN S) a) a) + ((jsm (fun b => jtal (jM S) (jlf S i) (jN S) b) a) * (jtal (jM S) (jlf S i) (jN S) a))))) dX0_differing_38 (nI_add _ _) ?_
          refine ja_istore_n K (lv1 := [(0, .ref (q 0)), (1, .int (nI (((jsm (fun i => jprs (jM S) (jlf S i) (jN S)) i + jsm (fun a => jsm (fun b => jtal (jM S) (jlf S i) (jN S) b) a * jtal (jM S) (jlf S i) (jN S) a) a) + ((jsm (fun b => jtal (jM S) (jlf S i) (jN S) b) a) * (jtal (jM S) (jlf S i) (jN S) a)))))), (2, .int (nI (i))), (3, .int (nI ((jsm (fun b => jtal (jM S) (jlf S i) (jN S) b) a)))), (4, .int (nI (a)))]) dX0_differing_39 (by decide) rfl rfl ?_
          refine ja_iload_n K 3 dX0_differing_40 rfl ?_
          refine ja_aload_n K 0 dX0_differing_41 rfl ?_
          refine ja_get K hu9 0 rfl rfl 11 (by decide) (List.mem_cons_of_mem _ kfX0_45) rfl rfl dX0_differing_42 ?_
          refine ja_iload K 4 dX0_differing_45 rfl ?_
          refine ja_iald K (v := nI ((jtal (jM S) (jlf S i) (jN S) a))) 10 0 rfl rfl (a) rfl (by omega) (by decide) (hg14 _ (by omega)) dX0_differing_47 ?_
          refine ja_iadd K (nI (((jsm (fun b => jtal (jM S) (jlf S i) (jN S) b) a) + (jtal (jM S) (jlf S i) (jN S) a)))) dX0_differing_48 (nI_add _ _) ?_
          refine ja_istore_n K (lv1 := [(0, .ref (q 0)), (1, .int (nI (((jsm (fun i => jprs (jM S) (jlf S i) (jN S)) i + jsm (fun a => jsm (fun b => jtal (jM S) (jlf S i) (jN S) b) a * jtal (jM S) (jlf S i) (jN S) a) a) + ((jsm (fun b => jtal (jM S) (jlf S i) (jN S) b) a) * (jtal (jM S) (jlf S i) (jN S) a)))))), (2, .int (nI (i))), (3, .int (nI (((jsm (fun b => jtal (jM S) (jlf S i) (jN S) b) a) + (jtal (jM S) (jlf S i) (jN S) a))))), (4, .int (nI (a)))]) dX0_differing_49 (by decide) rfl rfl ?_
          refine ja_iinc K (lv1 := [(0, .ref (q 0)), (1, .int (nI (((jsm (fun i => jprs (jM S) (jlf S i) (jN S)) i + jsm (fun a => jsm (fun b => jtal (jM S) (jlf S i) (jN S) b) a * jtal (jM S) (jlf S i) (jN S) a) a) + ((jsm (fun b => jtal (jM S) (jlf S i) (jN S) b) a) * (jtal (jM S) (jlf S i) (jN S) a)))))), (2, .int (nI (i))), (3, .int (nI (((jsm (fun b => jtal (jM S) (jlf S i) (jN S) b) a) + (jtal (jM S) (jlf S i) (jN S) a))))), (4, .int (nI ((a + 1))))]) 4 (nI ((a + 1))) dX0_differing_50 rfl (ja_inc _) (by decide) rfl rfl ?_
          refine ja_goto K (tgt := 22) dX0_differing_53 (by decide) ?_
          have e90 : jsm (fun i => jprs (jM S) (jlf S i) (jN S)) i + jsm (fun a => jsm (fun b => jtal (jM S) (jlf S i) (jN S) b) a * jtal (jM S) (jlf S i) (jN S) a) (a + 1) = ((jsm (fun i => jprs (jM S) (jlf S i) (jN S)) i + jsm (fun a => jsm (fun b => jtal (jM S) (jlf S i) (jN S) b) a * jtal (jM S) (jlf S i) (jN S) a) a) + ((jsm (fun b => jtal (jM S) (jlf S i) (jN S) b) a) * (jtal (jM S) (jlf S i) (jN S) a))) := by simp only [jsm]; omega
          have e91 : jsm (fun b => jtal (jM S) (jlf S i) (jN S) b) (a + 1) = ((jsm (fun b => jtal (jM S) (jlf S i) (jN S) b) a) + (jtal (jM S) (jlf S i) (jN S) a)) := rfl
          have k9 := IH22 (a + 1) (by omega) (by omega)
          rw [e90, e91] at k9
          exact k9
      exact L22 0 (Nat.zero_le _)
  exact L4 0 u ⟨Nat.zero_le _, hS9⟩
