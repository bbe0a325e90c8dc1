set_option maxRecDepth 100000 in
set_option maxHeartbeats 4000000 in
theorem jd_differing (l : Launch) (D : va_G) (q : Nat → Nat) (cI cZ : ClassId) (S : JS) (u : JM) (hW9 : jWf S) (hS9 : jmR1 S u)  : jkI l yX1_differing wsX1_differing ({ frames := 2, cells := 0, slots := 0, locals := 45 }) D vwCl (jxt cI cZ) (jmc q cI cZ) [.ref (q 0)] (jmc q cI cZ u) (fun r u1 => nI (jdif S) = r ∧ jmR1 S u1 ∧ jmF u1 = nI 0) := by
  refine jkI_of (cc := cX1_differing) (maxL := 5) (ret := (some .int)) (by decide) rfl (Nat.le_of_ble_eq_true rfl) ?_
  intro p e R s m args below meth c Q A K hn9 hR9 hQ9
  obtain ⟨rN, rT, rM, rU, rK, rP, rA, rL, rB⟩ := id hS9
  obtain ⟨wn, wt, wu, wk, wp, wl, wb⟩ := id hW9
  have hu9 : ∀ w ∈ u_ws RX1 TX1 16, w ∈ wsX1_differing := fun w h => List.mem_cons_of_mem _ (ku_X1 w h)
  show jaW p l e R s m args below meth c 0 0 Q D vwCl A 5 (jmc q cI cZ u) [(0, .ref (q 0))] 0 []
  refine ja_aload_n K 0 dX1_differing_0 rfl ?_
  refine ja_iconst K (nI 0) dX1_differing_1 (by decide) ?_
  refine ja_put K (ws1 := jmc q cI cZ (jmsF (u) (nI 0))) hu9 0 rfl rfl 0 (by decide) (List.mem_cons_of_mem _ kfX1_38) rfl tyX1 tyX1_ok nmX1 rfl rfl rfl rfl (Nat.le_of_ble_eq_true rfl) dX1_differing_2 rfl ?_
  refine ja_iconst K (nI 0) dX1_differing_5 (by decide) ?_
  refine ja_istore_n K (lv1 := [(0, .ref (q 0)), (1, .int (nI 0))]) dX1_differing_6 (by decide) rfl rfl ?_
  refine ja_iconst K (nI 0) dX1_differing_7 (by decide) ?_
  refine ja_istore_n K (lv1 := [(0, .ref (q 0)), (1, .int (nI 0)), (2, .int (nI 0))]) dX1_differing_8 (by decide) rfl rfl ?_
  have L9 : ∀ (i : Nat), (i ≤ jK S) → jaW p l e R s m args below meth c 0 0 Q D vwCl A 5 (jmc q cI cZ (jmsF (u) (nI 0))) [(0, .ref (q 0)), (1, .int (nI ((jsm (fun i => jprs (jM S) (jlf S i) (jN S)) i)))), (2, .int (nI (i)))] 9 [] := by
    refine jl_1 (fun (i : Nat) => jK S - i) (fun (i : Nat) => i ≤ jK S) _ ?_
    intro i hI9 IH9
    refine ja_iload_n K 2 dX1_differing_9 rfl ?_
    refine ja_aload_n K 0 dX1_differing_10 rfl ?_
    refine ja_get K hu9 0 rfl rfl 5 (by decide) (List.mem_cons_of_mem _ kfX1_45) rfl (congrArg (fun z9 => some (Value.int z9)) rK) dX1_differing_11 ?_
    refine ja_icmp_ge K (tgt := 97) ((jK S) ≤ i) dX1_differing_14 (by decide) (nI_leI (by omega) (by omega)) (fun h14 => ?_) (fun h14 => ?_)
    · refine ja_iload_n K 1 dX1_differing_97 rfl ?_
      exact ja_iret K (jmsF (u) (nI 0)) rfl (Nat.zero_le _) (Nat.zero_le _) dX1_differing_98 hQ9 rfl ⟨by rw [jdif, show i = jK S by omega], hS9, rfl⟩
    · refine ja_iconst K (nI 0) dX1_differing_17 (by decide) ?_
      refine ja_istore_n K (lv1 := [(0, .ref (q 0)), (1, .int (nI ((jsm (fun i => jprs (jM S) (jlf S i) (jN S)) i)))), (2, .int (nI (i))), (3, .int (nI 0))]) dX1_differing_18 (by decide) rfl rfl ?_
      have L19 : ∀ (a : Nat), (a ≤ jN S) → jaW p l e R s m args below meth c 0 0 Q D vwCl A 5 (jmc q cI cZ (jmsF (u) (nI 0))) [(0, .ref (q 0)), (1, .int (nI ((jsm (fun i => jprs (jM S) (jlf S i) (jN S)) i + jprs (jM S) (jlf S i) a)))), (2, .int (nI (i))), (3, .int (nI (a)))] 19 [] := by
        refine jl_1 (fun (a : Nat) => jN S - a) (fun (a : Nat) => a ≤ jN S) _ ?_
        intro a hI19 IH19
        refine ja_iload_n K 3 dX1_differing_19 rfl ?_
        refine ja_aload_n K 0 dX1_differing_20 rfl ?_
        refine ja_get K hu9 0 rfl rfl 1 (by decide) (List.mem_cons_of_mem _ kfX1_42) rfl (congrArg (fun z9 => some (Value.int z9)) rN) dX1_differing_21 ?_
        refine ja_icmp_ge K (tgt := 91) ((jN S) ≤ a) dX1_differing_24 (by decide) (nI_leI (by omega) (by omega)) (fun h24 => ?_) (fun h24 => ?_)
        · refine ja_iinc K (lv1 := [(0, .ref (q 0)), (1, .int (nI ((jsm (fun i => jprs (jM S) (jlf S i) (jN S)) i + jprs (jM S) (jlf S i) a)))), (2, .int (nI ((i + 1)))), (3, .int (nI (a)))]) 2 (nI ((i + 1))) dX1_differing_91 rfl (ja_inc _) (by decide) rfl rfl ?_
          refine ja_goto K (tgt := 9) dX1_differing_94 (by decide) ?_
          refine ja_locals (lv1 := [(0, .ref (q 0)), (1, .int (nI ((jsm (fun i => jprs (jM S) (jlf S i) (jN S)) i + jprs (jM S) (jlf S i) a)))), (2, .int (nI ((i + 1))))]) [0, 1, 2] rfl ?_
          have e90 : jsm (fun i => jprs (jM S) (jlf S i) (jN S)) (i + 1) = (jsm (fun i => jprs (jM S) (jlf S i) (jN S)) i + jprs (jM S) (jlf S i) a) := by rw [show a = jN S by omega]; rfl
          have k9 := IH9 (i + 1) (by omega) (by omega)
          rw [e90] at k9
          exact k9
        · refine ja_iconst K (nI 0) dX1_differing_27 (by decide) ?_
          refine ja_istore K (lv1 := [(0, .ref (q 0)), (1, .int (nI ((jsm (fun i => jprs (jM S) (jlf S i) (jN S)) i + jprs (jM S) (jlf S i) a)))), (2, .int (nI (i))), (3, .int (nI (a))), (4, .int (nI 0))]) dX1_differing_28 (by decide) rfl rfl ?_
          have L30 : ∀ (b : Nat), (b ≤ a) → jaW p l e R s m args below meth c 0 0 Q D vwCl A 5 (jmc q cI cZ (jmsF (u) (nI 0))) [(0, .ref (q 0)), (1, .int (nI ((jsm (fun i => jprs (jM S) (jlf S i) (jN S)) i + jprs (jM S) (jlf S i) a + jprA S i a b)))), (2, .int (nI (i))), (3, .int (nI (a))), (4, .int (nI (b)))] 30 [] := by
            refine jl_1 (fun (b : Nat) => a - b) (fun (b : Nat) => b ≤ a) _ ?_
            intro b hI30 IH30
            refine ja_iload K 4 dX1_differing_30 rfl ?_
            refine ja_iload_n K 3 dX1_differing_32 rfl ?_
            refine ja_icmp_ge K (tgt := 85) (a ≤ b) dX1_differing_33 (by decide) (nI_leI (by omega) (by omega)) (fun h33 => ?_) (fun h33 => ?_)
            · refine ja_iinc K (lv1 := [(0, .ref (q 0)), (1, .int (nI ((jsm (fun i => jprs (jM S) (jlf S i) (jN S)) i + jprs (jM S) (jlf S i) a + jprA S i a b)))), (2, .int (nI (i))), (3, .int (nI ((a + 1)))), (4, .int (nI (b)))]) 3 (nI ((a + 1))) dX1_differing_85 rfl (ja_inc _) (by decide) rfl rfl ?_
              refine ja_goto K (tgt := 19) dX1_differing_88 (by decide) ?_
              refine ja_locals (lv1 := [(0, .ref (q 0)), (1, .int (nI ((jsm (fun i => jprs (jM S) (jlf S i) (jN S)) i + jprs (jM S) (jlf S i) a + jprA S i a b)))), (2, .int (nI (i))), (3, .int (nI ((a + 1))))]) [0, 1, 2, 3] rfl ?_
              have e90 : jsm (fun i => jprs (jM S) (jlf S i) (jN S)) i + jprs (jM S) (jlf S i) (a + 1) = (jsm (fun i => jprs (jM S) (jlf S i) (jN S)) i + jprs (jM S) (jlf S i) a + jprA S i a b) := by rw [show b = a by omega]; exact (Nat.add_assoc _ _ _).symm
              have k9 := IH19 (a + 1) (by omega) (by omega)
              rw [e90] at k9
              exact k9
            · refine ja_aload_n K 0 dX1_differing_36 rfl ?_
              refine ja_get K hu9 0 rfl rfl 3 (by decide) (List.mem_cons_of_mem _ kfX1_13) rfl rfl dX1_differing_37 ?_
              refine ja_iload_n K 3 dX1_differing_40 rfl ?_
              refine ja_zald K (v := jbI (jM S (a))) 2 1 rfl rfl (a) rfl (by omega) (by decide) (rM _ (by omega)) dX1_differing_41 ?_
              refine ja_if_eq K (tgt := 77) (jM S (a) = false) dX1_differing_42 (by decide) (jbI_ne _) (fun h42 => ?_) (fun h42 => ?_)
              · refine ja_iload_n K 1 dX1_differing_77 rfl ?_
                refine ja_istore_n K (lv1 := [(0, .ref (q 0)), (1, .int (nI ((jsm (fun i => jprs (jM S) (jlf S i) (jN S)) i + jprs (jM S) (jlf S i) a + jprA S i a b)))), (2, .int (nI (i))), (3, .int (nI (a))), (4, .int (nI (b)))]) dX1_differing_78 (by decide) rfl rfl ?_
                refine ja_iinc K (lv1 := [(0, .ref (q 0)), (1, .int (nI ((jsm (fun i => jprs (jM S) (jlf S i) (jN S)) i + jprs (jM S) (jlf S i) a + jprA S i a b)))), (2, .int (nI (i))), (3, .int (nI (a))), (4, .int (nI ((b + 1))))]) 4 (nI ((b + 1))) dX1_differing_79 rfl (ja_inc _) (by decide) rfl rfl ?_
                refine ja_goto K (tgt := 30) dX1_differing_82 (by decide) ?_
                have e90 : jsm (fun i => jprs (jM S) (jlf S i) (jN S)) i + jprs (jM S) (jlf S i) a + jprA S i a (b + 1) = (jsm (fun i => jprs (jM S) (jlf S i) (jN S)) i + jprs (jM S) (jlf S i) a + jprA S i a b) := by
                  rw [show jprA S i a (b + 1) = jprA S i a b + (if (jM S a && jM S b && jlf S i a != jlf S i b) = true then 1 else 0) from rfl]
                  rw [if_neg (by simp [h42])]
                  rfl
                have k9 := IH30 (b + 1) (by omega) (by omega)
                rw [e90] at k9
                exact k9
              · refine ja_aload_n K 0 dX1_differing_45 rfl ?_
                refine ja_get K hu9 0 rfl rfl 3 (by decide) (List.mem_cons_of_mem _ kfX1_13) rfl rfl dX1_differing_46 ?_
                refine ja_iload K 4 dX1_differing_49 rfl ?_
                refine ja_zald K (v := jbI (jM S (b))) 2 1 rfl rfl (b) rfl (by omega) (by decide) (rM _ (by omega)) dX1_differing_51 ?_
                refine ja_if_eq K (tgt := 77) (jM S (b) = false) dX1_differing_52 (by decide) (jbI_ne _) (fun h52 => ?_) (fun h52 => ?_)
                · refine ja_iload_n K 1 dX1_differing_77 rfl ?_
                  refine ja_istore_n K (lv1 := [(0, .ref (q 0)), (1, .int (nI ((jsm (fun i => jprs (jM S) (jlf S i) (jN S)) i + jprs (jM S) (jlf S i) a + jprA S i a b)))), (2, .int (nI (i))), (3, .int (nI (a))), (4, .int (nI (b)))]) dX1_differing_78 (by decide) rfl rfl ?_
                  refine ja_iinc K (lv1 := [(0, .ref (q 0)), (1, .int (nI ((jsm (fun i => jprs (jM S) (jlf S i) (jN S)) i + jprs (jM S) (jlf S i) a + jprA S i a b)))), (2, .int (nI (i))), (3, .int (nI (a))), (4, .int (nI ((b + 1))))]) 4 (nI ((b + 1))) dX1_differing_79 rfl (ja_inc _) (by decide) rfl rfl ?_
                  refine ja_goto K (tgt := 30) dX1_differing_82 (by decide) ?_
                  have e90 : jsm (fun i => jprs (jM S) (jlf S i) (jN S)) i + jprs (jM S) (jlf S i) a + jprA S i a (b + 1) = (jsm (fun i => jprs (jM S) (jlf S i) (jN S)) i + jprs (jM S) (jlf S i) a + jprA S i a b) := by
                    rw [show jprA S i a (b + 1) = jprA S i a b + (if (jM S a && jM S b && jlf S i a != jlf S i b) = true then 1 else 0) from rfl]
                    rw [if_neg (by simp [h42, h52])]
                    rfl
                  have k9 := IH30 (b + 1) (by omega) (by omega)
                  rw [e90] at k9
                  exact k9
                · refine ja_aload_n K 0 dX1_differing_55 rfl ?_
                  refine ja_iload_n K 2 dX1_differing_56 rfl ?_
                  refine ja_iload_n K 3 dX1_differing_57 rfl ?_
                  have bl1 := jlf_lt hW9 (i := i) (by omega) a
                  have bl2 := jlf_lt hW9 (i := i) (by omega) b
                  refine ja_callVI K (q0 := 0) (qc := (RX1, TX1, 16)) (st := []) [.int (nI (i)), .int (nI (a))] (jd_letterAt l D q cI cZ S (jmsF (u) (nI 0)) hW9 hS9 (i) (a) (by omega) (by omega)) (cwV 2 K.1.2.2.2.2 (gX1_X1_letterAt _) rfl rfl rfl (by decide +kernel) (by rw [hR9]; exact ⟨Nat.le_of_ble_eq_true rfl, Nat.le_of_ble_eq_true rfl⟩)) rfl rfl rfl rfl rfl (Nat.le_of_ble_eq_true rfl) dX1_differing_58 (by rw [hR9]; exact ⟨Nat.le_of_ble_eq_true rfl, Nat.le_of_ble_eq_true rfl⟩) (fun r9 u9 h9 => ?_)
                  obtain ⟨rfl, rfl⟩ := h9
                  refine ja_aload_n K 0 dX1_differing_61 rfl ?_
                  refine ja_iload_n K 2 dX1_differing_62 rfl ?_
                  refine ja_iload K 4 dX1_differing_63 rfl ?_
                  refine ja_callVI K (q0 := 0) (qc := (RX1, TX1, 16)) (st := [.int (nI ((jlf S (i) (a))))]) [.int (nI (i)), .int (nI (b))] (jd_letterAt l D q cI cZ S (jmsF (u) (nI 0)) hW9 hS9 (i) (b) (by omega) (by omega)) (cwV 2 K.1.2.2.2.2 (gX1_X1_letterAt _) rfl rfl rfl (by decide +kernel) (by rw [hR9]; exact ⟨Nat.le_of_ble_eq_true rfl, Nat.le_of_ble_eq_true rfl⟩)) rfl rfl rfl rfl rfl (Nat.le_of_ble_eq_true rfl) dX1_differing_65 (by rw [hR9]; exact ⟨Nat.le_of_ble_eq_true rfl, Nat.le_of_ble_eq_true rfl⟩) (fun r9 u9 h9 => ?_)
                  obtain ⟨rfl, rfl⟩ := h9
                  refine ja_icmp_eq K (tgt := 77) ((jlf S (i) (a)) = (jlf S (i) (b))) dX1_differing_68 (by decide) (nI_eq (by omega) (by omega)) (fun h68 => ?_) (fun h68 => ?_)
                  · refine ja_iload_n K 1 dX1_differing_77 rfl ?_
                    refine ja_istore_n K (lv1 := [(0, .ref (q 0)), (1, .int (nI ((jsm (fun i => jprs (jM S) (jlf S i) (jN S)) i + jprs (jM S) (jlf S i) a + jprA S i a b)))), (2, .int (nI (i))), (3, .int (nI (a))), (4, .int (nI (b)))]) dX1_differing_78 (by decide) rfl rfl ?_
                    refine ja_iinc K (lv1 := [(0, .ref (q 0)), (1, .int (nI ((jsm (fun i => jprs (jM S) (jlf S i) (jN S)) i + jprs (jM S) (jlf S i) a + jprA S i a b)))), (2, .int (nI (i))), (3, .int (nI (a))), (4, .int (nI ((b + 1))))]) 4 (nI ((b + 1))) dX1_differing_79 rfl (ja_inc _) (by decide) rfl rfl ?_
                    refine ja_goto K (tgt := 30) dX1_differing_82 (by decide) ?_
                    have e90 : jsm (fun i => jprs (jM S) (jlf S i) (jN S)) i + jprs (jM S) (jlf S i) a + jprA S i a (b + 1) = (jsm (fun i => jprs (jM S) (jlf S i) (jN S)) i + jprs (jM S) (jlf S i) a + jprA S i a b) := by
                      rw [show jprA S i a (b + 1) = jprA S i a b + (if (jM S a && jM S b && jlf S i a != jlf S i b) = true then 1 else 0) from rfl]
                      rw [if_neg (by simp [h42, h52, h68])]
                      rfl
                    have k9 := IH30 (b + 1) (by omega) (by omega)
                    rw [e90] at k9
                    exact k9
                  · refine ja_iload_n K 1 dX1_differing_71 rfl ?_
                    refine ja_iconst K (nI 1) dX1_differing_72 (by decide) ?_
                    refine ja_iadd K (nI (((jsm (fun i => jprs (jM S) (jlf S i) (jN S)) i + jprs (jM S) (jlf S i) a + jprA S i a b) + 1))) dX1_differing_73 (nI_add _ _) ?_
                    refine ja_goto K (tgt := 78) dX1_differing_74 (by decide) ?_
                    refine ja_istore_n K (lv1 := [(0, .ref (q 0)), (1, .int (nI (((jsm (fun i => jprs (jM S) (jlf S i) (jN S)) i + jprs (jM S) (jlf S i) a + jprA S i a b) + 1)))), (2, .int (nI (i))), (3, .int (nI (a))), (4, .int (nI (b)))]) dX1_differing_78 (by decide) rfl rfl ?_
                    refine ja_iinc K (lv1 := [(0, .ref (q 0)), (1, .int (nI (((jsm (fun i => jprs (jM S) (jlf S i) (jN S)) i + jprs (jM S) (jlf S i) a + jprA S i a b) + 1)))), (2, .int (nI (i))), (3, .int (nI (a))), (4, .int (nI ((b + 1))))]) 4 (nI ((b + 1))) dX1_differing_79 rfl (ja_inc _) (by decide) rfl rfl ?_
                    refine ja_goto K (tgt := 30) dX1_differing_82 (by decide) ?_
                    have e90 : jsm (fun i => jprs (jM S) (jlf S i) (jN S)) i + jprs (jM S) (jlf S i) a + jprA S i a (b + 1) = ((jsm (fun i => jprs (jM S) (jlf S i) (jN S)) i + jprs (jM S) (jlf S i) a + jprA S i a b) + 1) := by
                      rw [show jprA S i a (b + 1) = jprA S i a b + (if (jM S a && jM S b && jlf S i a != jlf S i b) = true then 1 else 0) from rfl]
                      rw [if_pos (by simp [h42, h52, h68])]
                      exact (Nat.add_assoc _ _ _).symm
                    have k9 := IH30 (b + 1) (by omega) (by omega)
                    rw [e90] at k9
                    exact k9
          exact L30 0 (Nat.zero_le _)
      exact L19 0 (Nat.zero_le _)
  exact L9 0 (Nat.zero_le _)
