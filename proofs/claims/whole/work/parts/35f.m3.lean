set_option maxRecDepth 100000 in
set_option maxHeartbeats 4000000 in
theorem jd_spectrum (l : Launch) (D : va_G) (q : Nat → Nat) (cI cZ : ClassId) (S : JS) (u : JM) (hW9 : jWf S) (hS9 : jmR1 S u) (z : Int32) : jkI l yX1_spectrum wsX1_spectrum ({ frames := 2, cells := 0, slots := 0, locals := 45 }) D vwCl (jxt cI cZ) (jmc q cI cZ) [.ref (q 0), .int z] (jmc q cI cZ u) (fun r u1 => nI (jspec S z) = r ∧ jmR1 S u1 ∧ jmF u1 = nI 0) := by
  refine jkI_of (cc := cX1_spectrum) (maxL := 7) (ret := (some .int)) (by decide) rfl (Nat.le_of_ble_eq_true rfl) ?_
  intro p e R s m args below meth c Q A K hn9 hR9 hQ9
  obtain ⟨rN, rT, rM, rU, rK, rP, rA, rL, rB⟩ := id hS9
  obtain ⟨wn, wt, wu, wk, wp, wl, wb⟩ := id hW9
  have hu9 : ∀ w ∈ u_ws RX1 TX1 16, w ∈ wsX1_spectrum := fun w h => List.mem_cons_of_mem _ (ku_X1 w h)
  show jaW p l e R s m args below meth c 0 0 Q D vwCl A 7 (jmc q cI cZ u) [(0, .ref (q 0)), (1, .int (z))] 0 []
  refine ja_aload_n K 0 dX1_spectrum_0 rfl ?_
  refine ja_iconst K (nI 0) dX1_spectrum_1 (by decide) ?_
  refine ja_put K (ws1 := jmc q cI cZ (jmsF (u) (nI 0))) hu9 0 rfl rfl 0 (by decide) (List.mem_cons_of_mem _ kfX1_38) rfl tyX1 tyX1_ok nmX1 rfl rfl rfl rfl (Nat.le_of_ble_eq_true rfl) dX1_spectrum_2 rfl ?_
  refine ja_iconst K (nI 0) dX1_spectrum_5 (by decide) ?_
  refine ja_istore_n K (lv1 := [(0, .ref (q 0)), (1, .int (z)), (2, .int (nI 0))]) dX1_spectrum_6 (by decide) rfl rfl ?_
  refine ja_iconst K (nI 0) dX1_spectrum_7 (by decide) ?_
  refine ja_istore_n K (lv1 := [(0, .ref (q 0)), (1, .int (z)), (2, .int (nI 0)), (3, .int (nI 0))]) dX1_spectrum_8 (by decide) rfl rfl ?_
  have L9 : ∀ (i : Nat), (i ≤ jK S) → jaW p l e R s m args below meth c 0 0 Q D vwCl A 7 (jmc q cI cZ (jmsF (u) (nI 0))) [(0, .ref (q 0)), (1, .int (z)), (2, .int (nI ((jsm (fun i => jct (fun a => a != jA S i && decide (nI 1 ≤ z) && decide (nI (jtal (jM S) (jlf S i) (jN S) a) = z)) 4) i)))), (3, .int (nI (i)))] 9 [] := by
    refine jl_1 (fun (i : Nat) => jK S - i) (fun (i : Nat) => i ≤ jK S) _ ?_
    intro i hI9 IH9
    refine ja_iload_n K 3 dX1_spectrum_9 rfl ?_
    refine ja_aload_n K 0 dX1_spectrum_10 rfl ?_
    refine ja_get K hu9 0 rfl rfl 5 (by decide) (List.mem_cons_of_mem _ kfX1_45) rfl (congrArg (fun z9 => some (Value.int z9)) rK) dX1_spectrum_11 ?_
    refine ja_icmp_ge K (tgt := 121) ((jK S) ≤ i) dX1_spectrum_14 (by decide) (nI_leI (by omega) (by omega)) (fun h14 => ?_) (fun h14 => ?_)
    · refine ja_iload_n K 2 dX1_spectrum_121 rfl ?_
      exact ja_iret K (jmsF (u) (nI 0)) rfl (Nat.zero_le _) (Nat.zero_le _) dX1_spectrum_122 hQ9 rfl ⟨by rw [jspec_m, show i = jK S by omega], hS9, rfl⟩
    · have b9 := (wp i (by omega)).2
      refine ja_iconst K (nI 0) dX1_spectrum_17 (by decide) ?_
      refine ja_istore K (lv1 := [(0, .ref (q 0)), (1, .int (z)), (2, .int (nI ((jsm (fun i => jct (fun a => a != jA S i && decide (nI 1 ≤ z) && decide (nI (jtal (jM S) (jlf S i) (jN S) a) = z)) 4) i)))), (3, .int (nI (i))), (4, .int (nI 0))]) dX1_spectrum_18 (by decide) rfl rfl ?_
      have L20 : ∀ (a : Nat), (a ≤ 4) → jaW p l e R s m args below meth c 0 0 Q D vwCl A 7 (jmc q cI cZ (jmsF (u) (nI 0))) [(0, .ref (q 0)), (1, .int (z)), (2, .int (nI ((jsm (fun i => jct (fun a => a != jA S i && decide (nI 1 ≤ z) && decide (nI (jtal (jM S) (jlf S i) (jN S) a) = z)) 4) i + jct (fun a => a != jA S i && decide (nI 1 ≤ z) && decide (nI (jtal (jM S) (jlf S i) (jN S) a) = z)) a)))), (3, .int (nI (i))), (4, .int (nI (a)))] 20 [] := by
        refine jl_1 (fun (a : Nat) => 4 - a) (fun (a : Nat) => a ≤ 4) _ ?_
        intro a hI20 IH20
        refine ja_iload K 4 dX1_spectrum_20 rfl ?_
        refine ja_iconst K (nI 4) dX1_spectrum_22 (by decide) ?_
        refine ja_icmp_ge K (tgt := 115) (4 ≤ a) dX1_spectrum_23 (by decide) (nI_leI (by omega) (by omega)) (fun h23 => ?_) (fun h23 => ?_)
        · refine ja_iinc K (lv1 := [(0, .ref (q 0)), (1, .int (z)), (2, .int (nI ((jsm (fun i => jct (fun a => a != jA S i && decide (nI 1 ≤ z) && decide (nI (jtal (jM S) (jlf S i) (jN S) a) = z)) 4) i + jct (fun a => a != jA S i && decide (nI 1 ≤ z) && decide (nI (jtal (jM S) (jlf S i) (jN S) a) = z)) a)))), (3, .int (nI ((i + 1)))), (4, .int (nI (a)))]) 3 (nI ((i + 1))) dX1_spectrum_115 rfl (ja_inc _) (by decide) rfl rfl ?_
          refine ja_goto K (tgt := 9) dX1_spectrum_118 (by decide) ?_
          refine ja_locals (lv1 := [(0, .ref (q 0)), (1, .int (z)), (2, .int (nI ((jsm (fun i => jct (fun a => a != jA S i && decide (nI 1 ≤ z) && decide (nI (jtal (jM S) (jlf S i) (jN S) a) = z)) 4) i + jct (fun a => a != jA S i && decide (nI 1 ≤ z) && decide (nI (jtal (jM S) (jlf S i) (jN S) a) = z)) a)))), (3, .int (nI ((i + 1))))]) [0, 1, 2, 3] rfl ?_
          have e90 : jsm (fun i => jct (fun a => a != jA S i && decide (nI 1 ≤ z) && decide (nI (jtal (jM S) (jlf S i) (jN S) a) = z)) 4) (i + 1) = (jsm (fun i => jct (fun a => a != jA S i && decide (nI 1 ≤ z) && decide (nI (jtal (jM S) (jlf S i) (jN S) a) = z)) 4) i + jct (fun a => a != jA S i && decide (nI 1 ≤ z) && decide (nI (jtal (jM S) (jlf S i) (jN S) a) = z)) a) := by rw [show a = 4 by omega]; rfl
          have k9 := IH9 (i + 1) (by omega) (by omega)
          rw [e90] at k9
          exact k9
        · refine ja_iconst K (nI 0) dX1_spectrum_26 (by decide) ?_
          refine ja_istore K (lv1 := [(0, .ref (q 0)), (1, .int (z)), (2, .int (nI ((jsm (fun i => jct (fun a => a != jA S i && decide (nI 1 ≤ z) && decide (nI (jtal (jM S) (jlf S i) (jN S) a) = z)) 4) i + jct (fun a => a != jA S i && decide (nI 1 ≤ z) && decide (nI (jtal (jM S) (jlf S i) (jN S) a) = z)) a)))), (3, .int (nI (i))), (4, .int (nI (a))), (5, .int (nI 0))]) dX1_spectrum_27 (by decide) rfl rfl ?_
          refine ja_iconst K (nI 0) dX1_spectrum_29 (by decide) ?_
          refine ja_istore K (lv1 := [(0, .ref (q 0)), (1, .int (z)), (2, .int (nI ((jsm (fun i => jct (fun a => a != jA S i && decide (nI 1 ≤ z) && decide (nI (jtal (jM S) (jlf S i) (jN S) a) = z)) 4) i + jct (fun a => a != jA S i && decide (nI 1 ≤ z) && decide (nI (jtal (jM S) (jlf S i) (jN S) a) = z)) a)))), (3, .int (nI (i))), (4, .int (nI (a))), (5, .int (nI 0)), (6, .int (nI 0))]) dX1_spectrum_30 (by decide) rfl rfl ?_
          have L32 : ∀ (n0 : Nat), (n0 ≤ jN S) → jaW p l e R s m args below meth c 0 0 Q D vwCl A 7 (jmc q cI cZ (jmsF (u) (nI 0))) [(0, .ref (q 0)), (1, .int (z)), (2, .int (nI ((jsm (fun i => jct (fun a => a != jA S i && decide (nI 1 ≤ z) && decide (nI (jtal (jM S) (jlf S i) (jN S) a) = z)) 4) i + jct (fun a => a != jA S i && decide (nI 1 ≤ z) && decide (nI (jtal (jM S) (jlf S i) (jN S) a) = z)) a)))), (3, .int (nI (i))), (4, .int (nI (a))), (5, .int (nI ((jtal (jM S) (jlf S i) n0 a)))), (6, .int (nI (n0)))] 32 [] := by
            refine jl_1 (fun (n0 : Nat) => jN S - n0) (fun (n0 : Nat) => n0 ≤ jN S) _ ?_
            intro n0 hI32 IH32
            refine ja_iload K 6 dX1_spectrum_32 rfl ?_
            refine ja_aload_n K 0 dX1_spectrum_34 rfl ?_
            refine ja_get K hu9 0 rfl rfl 1 (by decide) (List.mem_cons_of_mem _ kfX1_42) rfl (congrArg (fun z9 => some (Value.int z9)) rN) dX1_spectrum_35 ?_
            refine ja_icmp_ge K (tgt := 80) ((jN S) ≤ n0) dX1_spectrum_38 (by decide) (nI_leI (by omega) (by omega)) (fun h38 => ?_) (fun h38 => ?_)
            · obtain rfl : n0 = jN S := by omega
              refine ja_iload K 4 dX1_spectrum_80 rfl ?_
              refine ja_aload_n K 0 dX1_spectrum_82 rfl ?_
              refine ja_get K hu9 0 rfl rfl 7 (by decide) (List.mem_cons_of_mem _ kfX1_23) rfl rfl dX1_spectrum_83 ?_
              refine ja_iload_n K 3 dX1_spectrum_86 rfl ?_
              refine ja_iald K (v := nI ((jA S (i)))) 5 0 rfl rfl (i) rfl (by omega) (by decide) (rA _ (by omega)) dX1_spectrum_87 ?_
              refine ja_icmp_eq K (tgt := 107) (a = (jA S (i))) dX1_spectrum_88 (by decide) (nI_eq (by omega) (by omega)) (fun h88 => ?_) (fun h88 => ?_)
              · refine ja_iload_n K 2 dX1_spectrum_107 rfl ?_
                refine ja_istore_n K (lv1 := [(0, .ref (q 0)), (1, .int (z)), (2, .int (nI ((jsm (fun i => jct (fun a => a != jA S i && decide (nI 1 ≤ z) && decide (nI (jtal (jM S) (jlf S i) (jN S) a) = z)) 4) i + jct (fun a => a != jA S i && decide (nI 1 ≤ z) && decide (nI (jtal (jM S) (jlf S i) (jN S) a) = z)) a)))), (3, .int (nI (i))), (4, .int (nI (a))), (5, .int (nI ((jtal (jM S) (jlf S i) (jN S) a)))), (6, .int (nI ((jN S))))]) dX1_spectrum_108 (by decide) rfl rfl ?_
                refine ja_iinc K (lv1 := [(0, .ref (q 0)), (1, .int (z)), (2, .int (nI ((jsm (fun i => jct (fun a => a != jA S i && decide (nI 1 ≤ z) && decide (nI (jtal (jM S) (jlf S i) (jN S) a) = z)) 4) i + jct (fun a => a != jA S i && decide (nI 1 ≤ z) && decide (nI (jtal (jM S) (jlf S i) (jN S) a) = z)) a)))), (3, .int (nI (i))), (4, .int (nI ((a + 1)))), (5, .int (nI ((jtal (jM S) (jlf S i) (jN S) a)))), (6, .int (nI ((jN S))))]) 4 (nI ((a + 1))) dX1_spectrum_109 rfl (ja_inc _) (by decide) rfl rfl ?_
                refine ja_goto K (tgt := 20) dX1_spectrum_112 (by decide) ?_
                refine ja_locals (lv1 := [(0, .ref (q 0)), (1, .int (z)), (2, .int (nI ((jsm (fun i => jct (fun a => a != jA S i && decide (nI 1 ≤ z) && decide (nI (jtal (jM S) (jlf S i) (jN S) a) = z)) 4) i + jct (fun a => a != jA S i && decide (nI 1 ≤ z) && decide (nI (jtal (jM S) (jlf S i) (jN S) a) = z)) a)))), (3, .int (nI (i))), (4, .int (nI ((a + 1))))]) [0, 1, 2, 3, 4] rfl ?_
                have e90 : jsm (fun i => jct (fun a => a != jA S i && decide (nI 1 ≤ z) && decide (nI (jtal (jM S) (jlf S i) (jN S) a) = z)) 4) i + jct (fun a => a != jA S i && decide (nI 1 ≤ z) && decide (nI (jtal (jM S) (jlf S i) (jN S) a) = z)) (a + 1) = (jsm (fun i => jct (fun a => a != jA S i && decide (nI 1 ≤ z) && decide (nI (jtal (jM S) (jlf S i) (jN S) a) = z)) 4) i + jct (fun a => a != jA S i && decide (nI 1 ≤ z) && decide (nI (jtal (jM S) (jlf S i) (jN S) a) = z)) a) := by
                  rw [show jct (fun a => a != jA S i && decide (nI 1 ≤ z) && decide (nI (jtal (jM S) (jlf S i) (jN S) a) = z)) (a + 1) = jct (fun a => a != jA S i && decide (nI 1 ≤ z) && decide (nI (jtal (jM S) (jlf S i) (jN S) a) = z)) a + (if (a != jA S i && decide (nI 1 ≤ z) && decide (nI (jtal (jM S) (jlf S i) (jN S) a) = z)) = true then 1 else 0) from rfl]
                  rw [if_neg (by simp [h88])]
                  rfl
                have k9 := IH20 (a + 1) (by omega) (by omega)
                rw [e90] at k9
                exact k9
              · refine ja_iload_n K 1 dX1_spectrum_91 rfl ?_
                refine ja_if_le K (tgt := 107) (z ≤ 0) dX1_spectrum_92 (by decide) Iff.rfl (fun h92 => ?_) (fun h92 => ?_)
                · have g92 : ¬ nI 1 ≤ z := by rw [Int32.le_iff_toInt_le, nI_toInt (by omega)]; rw [Int32.le_iff_toInt_le, Int32.toInt_zero] at h92; omega
                  refine ja_iload_n K 2 dX1_spectrum_107 rfl ?_
                  refine ja_istore_n K (lv1 := [(0, .ref (q 0)), (1, .int (z)), (2, .int (nI ((jsm (fun i => jct (fun a => a != jA S i && decide (nI 1 ≤ z) && decide (nI (jtal (jM S) (jlf S i) (jN S) a) = z)) 4) i + jct (fun a => a != jA S i && decide (nI 1 ≤ z) && decide (nI (jtal (jM S) (jlf S i) (jN S) a) = z)) a)))), (3, .int (nI (i))), (4, .int (nI (a))), (5, .int (nI ((jtal (jM S) (jlf S i) (jN S) a)))), (6, .int (nI ((jN S))))]) dX1_spectrum_108 (by decide) rfl rfl ?_
                  refine ja_iinc K (lv1 := [(0, .ref (q 0)), (1, .int (z)), (2, .int (nI ((jsm (fun i => jct (fun a => a != jA S i && decide (nI 1 ≤ z) && decide (nI (jtal (jM S) (jlf S i) (jN S) a) = z)) 4) i + jct (fun a => a != jA S i && decide (nI 1 ≤ z) && decide (nI (jtal (jM S) (jlf S i) (jN S) a) = z)) a)))), (3, .int (nI (i))), (4, .int (nI ((a + 1)))), (5, .int (nI ((jtal (jM S) (jlf S i) (jN S) a)))), (6, .int (nI ((jN S))))]) 4 (nI ((a + 1))) dX1_spectrum_109 rfl (ja_inc _) (by decide) rfl rfl ?_
                  refine ja_goto K (tgt := 20) dX1_spectrum_112 (by decide) ?_
                  refine ja_locals (lv1 := [(0, .ref (q 0)), (1, .int (z)), (2, .int (nI ((jsm (fun i => jct (fun a => a != jA S i && decide (nI 1 ≤ z) && decide (nI (jtal (jM S) (jlf S i) (jN S) a) = z)) 4) i + jct (fun a => a != jA S i && decide (nI 1 ≤ z) && decide (nI (jtal (jM S) (jlf S i) (jN S) a) = z)) a)))), (3, .int (nI (i))), (4, .int (nI ((a + 1))))]) [0, 1, 2, 3, 4] rfl ?_
                  have e90 : jsm (fun i => jct (fun a => a != jA S i && decide (nI 1 ≤ z) && decide (nI (jtal (jM S) (jlf S i) (jN S) a) = z)) 4) i + jct (fun a => a != jA S i && decide (nI 1 ≤ z) && decide (nI (jtal (jM S) (jlf S i) (jN S) a) = z)) (a + 1) = (jsm (fun i => jct (fun a => a != jA S i && decide (nI 1 ≤ z) && decide (nI (jtal (jM S) (jlf S i) (jN S) a) = z)) 4) i + jct (fun a => a != jA S i && decide (nI 1 ≤ z) && decide (nI (jtal (jM S) (jlf S i) (jN S) a) = z)) a) := by
                    rw [show jct (fun a => a != jA S i && decide (nI 1 ≤ z) && decide (nI (jtal (jM S) (jlf S i) (jN S) a) = z)) (a + 1) = jct (fun a => a != jA S i && decide (nI 1 ≤ z) && decide (nI (jtal (jM S) (jlf S i) (jN S) a) = z)) a + (if (a != jA S i && decide (nI 1 ≤ z) && decide (nI (jtal (jM S) (jlf S i) (jN S) a) = z)) = true then 1 else 0) from rfl]
                    rw [if_neg (by simp [h88, g92])]
                    rfl
                  have k9 := IH20 (a + 1) (by omega) (by omega)
                  rw [e90] at k9
                  exact k9
                · have g92 : nI 1 ≤ z := by rw [Int32.le_iff_toInt_le, nI_toInt (by omega)]; rw [Int32.le_iff_toInt_le, Int32.toInt_zero] at h92; omega
                  refine ja_iload K 5 dX1_spectrum_95 rfl ?_
                  refine ja_iload_n K 1 dX1_spectrum_97 rfl ?_
                  refine ja_icmp_ne K (tgt := 107) (¬ nI ((jtal (jM S) (jlf S i) (jN S) a)) = z) dX1_spectrum_98 (by decide) Iff.rfl (fun h98 => ?_) (fun h98 => ?_)
                  · refine ja_iload_n K 2 dX1_spectrum_107 rfl ?_
                    refine ja_istore_n K (lv1 := [(0, .ref (q 0)), (1, .int (z)), (2, .int (nI ((jsm (fun i => jct (fun a => a != jA S i && decide (nI 1 ≤ z) && decide (nI (jtal (jM S) (jlf S i) (jN S) a) = z)) 4) i + jct (fun a => a != jA S i && decide (nI 1 ≤ z) && decide (nI (jtal (jM S) (jlf S i) (jN S) a) = z)) a)))), (3, .int (nI (i))), (4, .int (nI (a))), (5, .int (nI ((jtal (jM S) (jlf S i) (jN S) a)))), (6, .int (nI ((jN S))))]) dX1_spectrum_108 (by decide) rfl rfl ?_
                    refine ja_iinc K (lv1 := [(0, .ref (q 0)), (1, .int (z)), (2, .int (nI ((jsm (fun i => jct (fun a => a != jA S i && decide (nI 1 ≤ z) && decide (nI (jtal (jM S) (jlf S i) (jN S) a) = z)) 4) i + jct (fun a => a != jA S i && decide (nI 1 ≤ z) && decide (nI (jtal (jM S) (jlf S i) (jN S) a) = z)) a)))), (3, .int (nI (i))), (4, .int (nI ((a + 1)))), (5, .int (nI ((jtal (jM S) (jlf S i) (jN S) a)))), (6, .int (nI ((jN S))))]) 4 (nI ((a + 1))) dX1_spectrum_109 rfl (ja_inc _) (by decide) rfl rfl ?_
                    refine ja_goto K (tgt := 20) dX1_spectrum_112 (by decide) ?_
                    refine ja_locals (lv1 := [(0, .ref (q 0)), (1, .int (z)), (2, .int (nI ((jsm (fun i => jct (fun a => a != jA S i && decide (nI 1 ≤ z) && decide (nI (jtal (jM S) (jlf S i) (jN S) a) = z)) 4) i + jct (fun a => a != jA S i && decide (nI 1 ≤ z) && decide (nI (jtal (jM S) (jlf S i) (jN S) a) = z)) a)))), (3, .int (nI (i))), (4, .int (nI ((a + 1))))]) [0, 1, 2, 3, 4] rfl ?_
                    have e90 : jsm (fun i => jct (fun a => a != jA S i && decide (nI 1 ≤ z) && decide (nI (jtal (jM S) (jlf S i) (jN S) a) = z)) 4) i + jct (fun a => a != jA S i && decide (nI 1 ≤ z) && decide (nI (jtal (jM S) (jlf S i) (jN S) a) = z)) (a + 1) = (jsm (fun i => jct (fun a => a != jA S i && decide (nI 1 ≤ z) && decide (nI (jtal (jM S) (jlf S i) (jN S) a) = z)) 4) i + jct (fun a => a != jA S i && decide (nI 1 ≤ z) && decide (nI (jtal (jM S) (jlf S i) (jN S) a) = z)) a) := by
                      rw [show jct (fun a => a != jA S i && decide (nI 1 ≤ z) && decide (nI (jtal (jM S) (jlf S i) (jN S) a) = z)) (a + 1) = jct (fun a => a != jA S i && decide (nI 1 ≤ z) && decide (nI (jtal (jM S) (jlf S i) (jN S) a) = z)) a + (if (a != jA S i && decide (nI 1 ≤ z) && decide (nI (jtal (jM S) (jlf S i) (jN S) a) = z)) = true then 1 else 0) from rfl]
                      rw [if_neg (by simp [h88, g92, h98])]
                      rfl
                    have k9 := IH20 (a + 1) (by omega) (by omega)
                    rw [e90] at k9
                    exact k9
                  · replace h98 := Classical.not_not.mp h98
                    refine ja_iload_n K 2 dX1_spectrum_101 rfl ?_
                    refine ja_iconst K (nI 1) dX1_spectrum_102 (by decide) ?_
                    refine ja_iadd K (nI (((jsm (fun i => jct (fun a => a != jA S i && decide (nI 1 ≤ z) && decide (nI (jtal (jM S) (jlf S i) (jN S) a) = z)) 4) i + jct (fun a => a != jA S i && decide (nI 1 ≤ z) && decide (nI (jtal (jM S) (jlf S i) (jN S) a) = z)) a) + 1))) dX1_spectrum_103 (nI_add _ _) ?_
                    refine ja_goto K (tgt := 108) dX1_spectrum_104 (by decide) ?_
                    refine ja_istore_n K (lv1 := [(0, .ref (q 0)), (1, .int (z)), (2, .int (nI (((jsm (fun i => jct (fun a => a != jA S i && decide (nI 1 ≤ z) && decide (nI (jtal (jM S) (jlf S i) (jN S) a) = z)) 4) i + jct (fun a => a != jA S i && decide (nI 1 ≤ z) && decide (nI (jtal (jM S) (jlf S i) (jN S) a) = z)) a) + 1)))), (3, .int (nI (i))), (4, .int (nI (a))), (5, .int (nI ((jtal (jM S) (jlf S i) (jN S) a)))), (6, .int (nI ((jN S))))]) dX1_spectrum_108 (by decide) rfl rfl ?_
                    refine ja_iinc K (lv1 := [(0, .ref (q 0)), (1, .int (z)), (2, .int (nI (((jsm (fun i => jct (fun a => a != jA S i && decide (nI 1 ≤ z) && decide (nI (jtal (jM S) (jlf S i) (jN S) a) = z)) 4) i + jct (fun a => a != jA S i && decide (nI 1 ≤ z) && decide (nI (jtal (jM S) (jlf S i) (jN S) a) = z)) a) + 1)))), (3, .int (nI (i))), (4, .int (nI ((a + 1)))), (5, .int (nI ((jtal (jM S) (jlf S i) (jN S) a)))), (6, .int (nI ((jN S))))]) 4 (nI ((a + 1))) dX1_spectrum_109 rfl (ja_inc _) (by decide) rfl rfl ?_
                    refine ja_goto K (tgt := 20) dX1_spectrum_112 (by decide) ?_
                    refine ja_locals (lv1 := [(0, .ref (q 0)), (1, .int (z)), (2, .int (nI (((jsm (fun i => jct (fun a => a != jA S i && decide (nI 1 ≤ z) && decide (nI (jtal (jM S) (jlf S i) (jN S) a) = z)) 4) i + jct (fun a => a != jA S i && decide (nI 1 ≤ z) && decide (nI (jtal (jM S) (jlf S i) (jN S) a) = z)) a) + 1)))), (3, .int (nI (i))), (4, .int (nI ((a + 1))))]) [0, 1, 2, 3, 4] rfl ?_
                    have e90 : jsm (fun i => jct (fun a => a != jA S i && decide (nI 1 ≤ z) && decide (nI (jtal (jM S) (jlf S i) (jN S) a) = z)) 4) i + jct (fun a => a != jA S i && decide (nI 1 ≤ z) && decide (nI (jtal (jM S) (jlf S i) (jN S) a) = z)) (a + 1) = ((jsm (fun i => jct (fun a => a != jA S i && decide (nI 1 ≤ z) && decide (nI (jtal (jM S) (jlf S i) (jN S) a) = z)) 4) i + jct (fun a => a != jA S i && decide (nI 1 ≤ z) && decide (nI (jtal (jM S) (jlf S i) (jN S) a) = z)) a) + 1) := by
                      rw [show jct (fun a => a != jA S i && decide (nI 1 ≤ z) && decide (nI (jtal (jM S) (jlf S i) (jN S) a) = z)) (a + 1) = jct (fun a => a != jA S i && decide (nI 1 ≤ z) && decide (nI (jtal (jM S) (jlf S i) (jN S) a) = z)) a + (if (a != jA S i && decide (nI 1 ≤ z) && decide (nI (jtal (jM S) (jlf S i) (jN S) a) = z)) = true then 1 else 0) from rfl]
                      rw [if_pos (by simp [h88, g92, h98])]
                      exact (Nat.add_assoc _ _ _).symm
                    have k9 := IH20 (a + 1) (by omega) (by omega)
                    rw [e90] at k9
                    exact k9
            · refine ja_aload_n K 0 dX1_spectrum_41 rfl ?_
              refine ja_get K hu9 0 rfl rfl 3 (by decide) (List.mem_cons_of_mem _ kfX1_13) rfl rfl dX1_spectrum_42 ?_
              refine ja_iload K 6 dX1_spectrum_45 rfl ?_
              refine ja_zald K (v := jbI (jM S (n0))) 2 1 rfl rfl (n0) rfl (by omega) (by decide) (rM _ (by omega)) dX1_spectrum_47 ?_
              refine ja_if_eq K (tgt := 70) (jM S (n0) = false) dX1_spectrum_48 (by decide) (jbI_ne _) (fun h48 => ?_) (fun h48 => ?_)
              · refine ja_iload K 5 dX1_spectrum_70 rfl ?_
                refine ja_istore K (lv1 := [(0, .ref (q 0)), (1, .int (z)), (2, .int (nI ((jsm (fun i => jct (fun a => a != jA S i && decide (nI 1 ≤ z) && decide (nI (jtal (jM S) (jlf S i) (jN S) a) = z)) 4) i + jct (fun a => a != jA S i && decide (nI 1 ≤ z) && decide (nI (jtal (jM S) (jlf S i) (jN S) a) = z)) a)))), (3, .int (nI (i))), (4, .int (nI (a))), (5, .int (nI ((jtal (jM S) (jlf S i) n0 a)))), (6, .int (nI (n0)))]) dX1_spectrum_72 (by decide) rfl rfl ?_
                refine ja_iinc K (lv1 := [(0, .ref (q 0)), (1, .int (z)), (2, .int (nI ((jsm (fun i => jct (fun a => a != jA S i && decide (nI 1 ≤ z) && decide (nI (jtal (jM S) (jlf S i) (jN S) a) = z)) 4) i + jct (fun a => a != jA S i && decide (nI 1 ≤ z) && decide (nI (jtal (jM S) (jlf S i) (jN S) a) = z)) a)))), (3, .int (nI (i))), (4, .int (nI (a))), (5, .int (nI ((jtal (jM S) (jlf S i) n0 a)))), (6, .int (nI ((n0 + 1))))]) 6 (nI ((n0 + 1))) dX1_spectrum_74 rfl (ja_inc _) (by decide) rfl rfl ?_
                refine ja_goto K (tgt := 32) dX1_spectrum_77 (by decide) ?_
                have e90 : jtal (jM S) (jlf S i) (n0 + 1) a = (jtal (jM S) (jlf S i) n0 a) := by simp [jtal, jct, h14, h23, h38, h48]
                have k9 := IH32 (n0 + 1) (by omega) (by omega)
                rw [e90] at k9
                exact k9
              · refine ja_aload_n K 0 dX1_spectrum_51 rfl ?_
                refine ja_iload_n K 3 dX1_spectrum_52 rfl ?_
                refine ja_iload K 6 dX1_spectrum_53 rfl ?_
                have bl := jlf_lt hW9 (i := i) (by omega) n0
                refine ja_callVI K (q0 := 0) (qc := (RX1, TX1, 16)) (st := []) [.int (nI (i)), .int (nI (n0))] (jd_letterAt l D q cI cZ S (jmsF (u) (nI 0)) hW9 hS9 (i) (n0) (by omega) (by omega)) (cwV 2 K.1.2.2.2.2 (gX1_X1_letterAt _) rfl rfl rfl (by decide +kernel) (by rw [hR9]; exact ⟨Nat.le_of_ble_eq_true rfl, Nat.le_of_ble_eq_true rfl⟩)) rfl rfl rfl rfl rfl (Nat.le_of_ble_eq_true rfl) dX1_spectrum_55 (by rw [hR9]; exact ⟨Nat.le_of_ble_eq_true rfl, Nat.le_of_ble_eq_true rfl⟩) (fun r9 u9 h9 => ?_)
                obtain ⟨rfl, rfl⟩ := h9
                refine ja_iload K 4 dX1_spectrum_58 rfl ?_
                refine ja_icmp_ne K (tgt := 70) (¬ (jlf S (i) (n0)) = a) dX1_spectrum_60 (by decide) (not_congr (nI_eq (by omega) (by omega))) (fun h60 => ?_) (fun h60 => ?_)
                · refine ja_iload K 5 dX1_spectrum_70 rfl ?_
                  refine ja_istore K (lv1 := [(0, .ref (q 0)), (1, .int (z)), (2, .int (nI ((jsm (fun i => jct (fun a => a != jA S i && decide (nI 1 ≤ z) && decide (nI (jtal (jM S) (jlf S i) (jN S) a) = z)) 4) i + jct (fun a => a != jA S i && decide (nI 1 ≤ z) && decide (nI (jtal (jM S) (jlf S i) (jN S) a) = z)) a)))), (3, .int (nI (i))), (4, .int (nI (a))), (5, .int (nI ((jtal (jM S) (jlf S i) n0 a)))), (6, .int (nI (n0)))]) dX1_spectrum_72 (by decide) rfl rfl ?_
                  refine ja_iinc K (lv1 := [(0, .ref (q 0)), (1, .int (z)), (2, .int (nI ((jsm (fun i => jct (fun a => a != jA S i && decide (nI 1 ≤ z) && decide (nI (jtal (jM S) (jlf S i) (jN S) a) = z)) 4) i + jct (fun a => a != jA S i && decide (nI 1 ≤ z) && decide (nI (jtal (jM S) (jlf S i) (jN S) a) = z)) a)))), (3, .int (nI (i))), (4, .int (nI (a))), (5, .int (nI ((jtal (jM S) (jlf S i) n0 a)))), (6, .int (nI ((n0 + 1))))]) 6 (nI ((n0 + 1))) dX1_spectrum_74 rfl (ja_inc _) (by decide) rfl rfl ?_
                  refine ja_goto K (tgt := 32) dX1_spectrum_77 (by decide) ?_
                  have e90 : jtal (jM S) (jlf S i) (n0 + 1) a = (jtal (jM S) (jlf S i) n0 a) := by simp [jtal, jct, h14, h23, h38, h48, h60]
                  have k9 := IH32 (n0 + 1) (by omega) (by omega)
                  rw [e90] at k9
                  exact k9
                · replace h60 := Classical.not_not.mp h60
                  refine ja_iload K 5 dX1_spectrum_63 rfl ?_
                  refine ja_iconst K (nI 1) dX1_spectrum_65 (by decide) ?_
                  refine ja_iadd K (nI (((jtal (jM S) (jlf S i) n0 a) + 1))) dX1_spectrum_66 (nI_add _ _) ?_
                  refine ja_goto K (tgt := 72) dX1_spectrum_67 (by decide) ?_
                  refine ja_istore K (lv1 := [(0, .ref (q 0)), (1, .int (z)), (2, .int (nI ((jsm (fun i => jct (fun a => a != jA S i && decide (nI 1 ≤ z) && decide (nI (jtal (jM S) (jlf S i) (jN S) a) = z)) 4) i + jct (fun a => a != jA S i && decide (nI 1 ≤ z) && decide (nI (jtal (jM S) (jlf S i) (jN S) a) = z)) a)))), (3, .int (nI (i))), (4, .int (nI (a))), (5, .int (nI (((jtal (jM S) (jlf S i) n0 a) + 1)))), (6, .int (nI (n0)))]) dX1_spectrum_72 (by decide) rfl rfl ?_
                  refine ja_iinc K (lv1 := [(0, .ref (q 0)), (1, .int (z)), (2, .int (nI ((jsm (fun i => jct (fun a => a != jA S i && decide (nI 1 ≤ z) && decide (nI (jtal (jM S) (jlf S i) (jN S) a) = z)) 4) i + jct (fun a => a != jA S i && decide (nI 1 ≤ z) && decide (nI (jtal (jM S) (jlf S i) (jN S) a) = z)) a)))), (3, .int (nI (i))), (4, .int (nI (a))), (5, .int (nI (((jtal (jM S) (jlf S i) n0 a) + 1)))), (6, .int (nI ((n0 + 1))))]) 6 (nI ((n0 + 1))) dX1_spectrum_74 rfl (ja_inc _) (by decide) rfl rfl ?_
                  refine ja_goto K (tgt := 32) dX1_spectrum_77 (by decide) ?_
                  have e90 : jtal (jM S) (jlf S i) (n0 + 1) a = ((jtal (jM S) (jlf S i) n0 a) + 1) := by simp [jtal, jct, h14, h23, h38, h48, h60]
                  have k9 := IH32 (n0 + 1) (by omega) (by omega)
                  rw [e90] at k9
                  exact k9
          exact L32 0 (Nat.zero_le _)
      exact L20 0 (Nat.zero_le _)
  exact L9 0 (Nat.zero_le _)
