set_option maxRecDepth 100000 in
set_option maxHeartbeats 4000000 in
theorem jc_spectrum (l : Launch) (D : va_G) (q : Nat → Nat) (cI cZ : ClassId) (S : JS) (u : JX) (hW9 : jWf S) (hS9 : jxR1 S u) (z : Int32) : jkI l yX0_spectrum wsX0_spectrum ({ frames := 3, cells := 0, slots := 0, locals := 69 }) D vwCl (jxt cI cZ) (jxc q cI cZ) [.ref (q 0), .int z] (jxc q cI cZ u) (fun r u1 => nI (jspec S z) = r ∧ jxR1 S u1) := by
  refine jkI_of (cc := cX0_spectrum) (maxL := 5) (ret := (some .int)) (by decide) rfl (Nat.le_of_ble_eq_true rfl) ?_
  intro p e R s m args below meth c Q A K hn9 hR9 hQ9
  obtain ⟨rN, rT, rM, rU, rK, rP, rA, rL, rB⟩ := id hS9
  obtain ⟨wn, wt, wu, wk, wp, wl, wb⟩ := id hW9
  have hu9 : ∀ w ∈ u_ws RX0 TX0 13, w ∈ wsX0_spectrum := fun w h => List.mem_cons_of_mem _ (ku_X0 w h)
  show jaW p l e R s m args below meth c 0 0 Q D vwCl A 5 (jxc q cI cZ u) [(0, .ref (q 0)), (1, .int (z))] 0 []
  refine ja_iload_n K 1 dX0_spectrum_0 rfl ?_
  refine ja_iconst K (nI 1) dX0_spectrum_1 (by decide) ?_
  refine ja_icmp_ge K (tgt := 7) (nI 1 ≤ z) dX0_spectrum_2 (by decide) Iff.rfl (fun h2 => ?_) (fun h2 => ?_)
  · refine ja_iconst K (nI 0) dX0_spectrum_7 (by decide) ?_
    refine ja_istore_n K (lv1 := [(0, .ref (q 0)), (1, .int (z)), (2, .int (nI 0))]) dX0_spectrum_8 (by decide) rfl rfl ?_
    refine ja_iconst K (nI 0) dX0_spectrum_9 (by decide) ?_
    refine ja_istore_n K (lv1 := [(0, .ref (q 0)), (1, .int (z)), (2, .int (nI 0)), (3, .int (nI 0))]) dX0_spectrum_10 (by decide) rfl rfl ?_
    have L11 : ∀ (i : Nat) (v : JX), (i ≤ jK S ∧ jxR1 S v) → jaW p l e R s m args below meth c 0 0 Q D vwCl A 5 (jxc q cI cZ v) [(0, .ref (q 0)), (1, .int (z)), (2, .int (nI ((jsm (fun i => jct (fun a => a != jA S i && decide (nI (jtal (jM S) (jlf S i) (jN S) a) = z)) 4) i)))), (3, .int (nI (i)))] 11 [] := by
      refine jl_2 (fun (i : Nat) (v : JX) => jK S - i) (fun (i : Nat) (v : JX) => i ≤ jK S ∧ jxR1 S v) _ ?_
      intro i v hI11 IH11
      obtain ⟨rN, rT, rM, rU, rK, rP, rA, rL, rB⟩ := id hI11.2
      refine ja_iload_n K 3 dX0_spectrum_11 rfl ?_
      refine ja_aload_n K 0 dX0_spectrum_12 rfl ?_
      refine ja_get K hu9 0 rfl rfl 4 (by decide) (List.mem_cons_of_mem _ kfX0_24) rfl (congrArg (fun z9 => some (Value.int z9)) rK) dX0_spectrum_13 ?_
      refine ja_icmp_ge K (tgt := 70) ((jK S) ≤ i) dX0_spectrum_16 (by decide) (nI_leI (by omega) (by omega)) (fun h16 => ?_) (fun h16 => ?_)
      · refine ja_iload_n K 2 dX0_spectrum_70 rfl ?_
        exact ja_iret K (v) rfl (Nat.zero_le _) (Nat.zero_le _) dX0_spectrum_71 hQ9 rfl ⟨by rw [jspec, if_pos h2, show i = jK S by omega], hI11.2⟩
      · have b9 := (wp i (by omega)).2
        refine ja_aload_n K 0 dX0_spectrum_19 rfl ?_
        refine ja_iload_n K 3 dX0_spectrum_20 rfl ?_
        refine ja_callVV K (q0 := 0) (qc := (RX0, TX0, 13)) (st := []) [.int (nI (i))] (jc_tallyLetters l D q cI cZ S (v) hW9 hI11.2 (i) (by omega)) (cwV 1 K.1.2.2.2.2 (gX0_X0_tallyLetters _) rfl rfl rfl (by decide +kernel) (by rw [hR9]; exact ⟨Nat.le_of_ble_eq_true rfl, Nat.le_of_ble_eq_true rfl⟩)) rfl rfl rfl rfl rfl (Nat.le_of_ble_eq_true rfl) dX0_spectrum_21 (by rw [hR9]; exact ⟨Nat.le_of_ble_eq_true rfl, Nat.le_of_ble_eq_true rfl⟩) (fun u9 h9 => ?_)
        obtain ⟨g21, rfl, hg21⟩ := h9
        refine ja_iconst K (nI 0) dX0_spectrum_24 (by decide) ?_
        refine ja_istore K (lv1 := [(0, .ref (q 0)), (1, .int (z)), (2, .int (nI ((jsm (fun i => jct (fun a => a != jA S i && decide (nI (jtal (jM S) (jlf S i) (jN S) a) = z)) 4) i)))), (3, .int (nI (i))), (4, .int (nI 0))]) dX0_spectrum_25 (by decide) rfl rfl ?_
        have L27 : ∀ (a : Nat), (a ≤ 4) → jaW p l e R s m args below meth c 0 0 Q D vwCl A 5 (jxc q cI cZ (jxsY v g21)) [(0, .ref (q 0)), (1, .int (z)), (2, .int (nI ((jsm (fun i => jct (fun a => a != jA S i && decide (nI (jtal (jM S) (jlf S i) (jN S) a) = z)) 4) i + jct (fun a => a != jA S i && decide (nI (jtal (jM S) (jlf S i) (jN S) a) = z)) a)))), (3, .int (nI (i))), (4, .int (nI (a)))] 27 [] := by
          refine jl_1 (fun (a : Nat) => 4 - a) (fun (a : Nat) => a ≤ 4) _ ?_
          intro a hI27 IH27
          refine ja_iload K 4 dX0_spectrum_27 rfl ?_
          refine ja_iconst K (nI 4) dX0_spectrum_29 (by decide) ?_
          refine ja_icmp_ge K (tgt := 64) (4 ≤ a) dX0_spectrum_30 (by decide) (nI_leI (by omega) (by omega)) (fun h30 => ?_) (fun h30 => ?_)
          · refine ja_iinc K (lv1 := [(0, .ref (q 0)), (1, .int (z)), (2, .int (nI ((jsm (fun i => jct (fun a => a != jA S i && decide (nI (jtal (jM S) (jlf S i) (jN S) a) = z)) 4) i + jct (fun a => a != jA S i && decide (nI (jtal (jM S) (jlf S i) (jN S) a) = z)) a)))), (3, .int (nI ((i + 1)))), (4, .int (nI (a)))]) 3 (nI ((i + 1))) dX0_spectrum_64 rfl (ja_inc _) (by decide) rfl rfl ?_
            refine ja_goto K (tgt := 11) dX0_spectrum_67 (by decide) ?_
            refine ja_locals (lv1 := [(0, .ref (q 0)), (1, .int (z)), (2, .int (nI ((jsm (fun i => jct (fun a => a != jA S i && decide (nI (jtal (jM S) (jlf S i) (jN S) a) = z)) 4) i + jct (fun a => a != jA S i && decide (nI (jtal (jM S) (jlf S i) (jN S) a) = z)) a)))), (3, .int (nI ((i + 1))))]) [0, 1, 2, 3] rfl ?_
            have e90 : jsm (fun i => jct (fun a => a != jA S i && decide (nI (jtal (jM S) (jlf S i) (jN S) a) = z)) 4) (i + 1) = (jsm (fun i => jct (fun a => a != jA S i && decide (nI (jtal (jM S) (jlf S i) (jN S) a) = z)) 4) i + jct (fun a => a != jA S i && decide (nI (jtal (jM S) (jlf S i) (jN S) a) = z)) a) := by rw [show a = 4 by omega]; rfl
            have k9 := IH11 (i + 1) (jxsY v g21) ⟨by omega, hI11.2⟩ (by omega)
            rw [e90] at k9
            exact k9
          · refine ja_iload K 4 dX0_spectrum_33 rfl ?_
            refine ja_aload_n K 0 dX0_spectrum_35 rfl ?_
            refine ja_get K hu9 0 rfl rfl 6 (by decide) (List.mem_cons_of_mem _ kfX0_30) rfl rfl dX0_spectrum_36 ?_
            refine ja_iload_n K 3 dX0_spectrum_39 rfl ?_
            refine ja_iald K (v := nI ((jA S (i)))) 5 0 rfl rfl (i) rfl (by omega) (by decide) (rA _ (by omega)) dX0_spectrum_40 ?_
            refine ja_icmp_eq K (tgt := 58) (a = (jA S (i))) dX0_spectrum_41 (by decide) (nI_eq (by omega) (by omega)) (fun h41 => ?_) (fun h41 => ?_)
            · refine ja_iinc K (lv1 := [(0, .ref (q 0)), (1, .int (z)), (2, .int (nI ((jsm (fun i => jct (fun a => a != jA S i && decide (nI (jtal (jM S) (jlf S i) (jN S) a) = z)) 4) i + jct (fun a => a != jA S i && decide (nI (jtal (jM S) (jlf S i) (jN S) a) = z)) a)))), (3, .int (nI (i))), (4, .int (nI ((a + 1))))]) 4 (nI ((a + 1))) dX0_spectrum_58 rfl (ja_inc _) (by decide) rfl rfl ?_
              refine ja_goto K (tgt := 27) dX0_spectrum_61 (by decide) ?_
              have e90 : jsm (fun i => jct (fun a => a != jA S i && decide (nI (jtal (jM S) (jlf S i) (jN S) a) = z)) 4) i + jct (fun a => a != jA S i && decide (nI (jtal (jM S) (jlf S i) (jN S) a) = z)) (a + 1) = (jsm (fun i => jct (fun a => a != jA S i && decide (nI (jtal (jM S) (jlf S i) (jN S) a) = z)) 4) i + jct (fun a => a != jA S i && decide (nI (jtal (jM S) (jlf S i) (jN S) a) = z)) a) := by rw [show jct (fun a => a != jA S i && decide (nI (jtal (jM S) (jlf S i) (jN S) a) = z)) (a + 1) = jct (fun a => a != jA S i && decide (nI (jtal (jM S) (jlf S i) (jN S) a) = z)) a + (if (a != jA S i && decide (nI (jtal (jM S) (jlf S i) (jN S) a) = z)) = true then 1 else 0) from rfl]; first | (rw [if_pos (by simp [h41])]; done) | (rw [if_pos (by simp at h52; simp [h41])]; omega) | (rw [if_neg (by simp [h41])]; rfl)
              have k9 := IH27 (a + 1) (by omega) (by omega)
              rw [e90] at k9
              exact k9
            · refine ja_aload_n K 0 dX0_spectrum_44 rfl ?_
              refine ja_get K hu9 0 rfl rfl 11 (by decide) (List.mem_cons_of_mem _ kfX0_45) rfl rfl dX0_spectrum_45 ?_
              refine ja_iload K 4 dX0_spectrum_48 rfl ?_
              refine ja_iald K (v := nI ((jtal (jM S) (jlf S i) (jN S) a))) 10 0 rfl rfl (a) rfl (by omega) (by decide) (hg21 _ (by omega)) dX0_spectrum_50 ?_
              refine ja_iload_n K 1 dX0_spectrum_51 rfl ?_
              refine ja_icmp_ne K (tgt := 58) (¬ nI ((jtal (jM S) (jlf S i) (jN S) a)) = z) dX0_spectrum_52 (by decide) Iff.rfl (fun h52 => ?_) (fun h52 => ?_)
              · refine ja_iinc K (lv1 := [(0, .ref (q 0)), (1, .int (z)), (2, .int (nI ((jsm (fun i => jct (fun a => a != jA S i && decide (nI (jtal (jM S) (jlf S i) (jN S) a) = z)) 4) i + jct (fun a => a != jA S i && decide (nI (jtal (jM S) (jlf S i) (jN S) a) = z)) a)))), (3, .int (nI (i))), (4, .int (nI ((a + 1))))]) 4 (nI ((a + 1))) dX0_spectrum_58 rfl (ja_inc _) (by decide) rfl rfl ?_
                refine ja_goto K (tgt := 27) dX0_spectrum_61 (by decide) ?_
                have e90 : jsm (fun i => jct (fun a => a != jA S i && decide (nI (jtal (jM S) (jlf S i) (jN S) a) = z)) 4) i + jct (fun a => a != jA S i && decide (nI (jtal (jM S) (jlf S i) (jN S) a) = z)) (a + 1) = (jsm (fun i => jct (fun a => a != jA S i && decide (nI (jtal (jM S) (jlf S i) (jN S) a) = z)) 4) i + jct (fun a => a != jA S i && decide (nI (jtal (jM S) (jlf S i) (jN S) a) = z)) a) := by rw [show jct (fun a => a != jA S i && decide (nI (jtal (jM S) (jlf S i) (jN S) a) = z)) (a + 1) = jct (fun a => a != jA S i && decide (nI (jtal (jM S) (jlf S i) (jN S) a) = z)) a + (if (a != jA S i && decide (nI (jtal (jM S) (jlf S i) (jN S) a) = z)) = true then 1 else 0) from rfl]; first | (rw [if_pos (by simp [h41, h52])]; done) | (rw [if_pos (by simp at h52; simp [h41, h52])]; omega) | (rw [if_neg (by simp [h41, h52])]; rfl)
                have k9 := IH27 (a + 1) (by omega) (by omega)
                rw [e90] at k9
                exact k9
              · refine ja_iinc K (lv1 := [(0, .ref (q 0)), (1, .int (z)), (2, .int (nI (((jsm (fun i => jct (fun a => a != jA S i && decide (nI (jtal (jM S) (jlf S i) (jN S) a) = z)) 4) i + jct (fun a => a != jA S i && decide (nI (jtal (jM S) (jlf S i) (jN S) a) = z)) a) + 1)))), (3, .int (nI (i))), (4, .int (nI (a)))]) 2 (nI (((jsm (fun i => jct (fun a => a != jA S i && decide (nI (jtal (jM S) (jlf S i) (jN S) a) = z)) 4) i + jct (fun a => a != jA S i && decide (nI (jtal (jM S) (jlf S i) (jN S) a) = z)) a) + 1))) dX0_spectrum_55 rfl (ja_inc _) (by decide) rfl rfl ?_
                refine ja_iinc K (lv1 := [(0, .ref (q 0)), (1, .int (z)), (2, .int (nI (((jsm (fun i => jct (fun a => a != jA S i && decide (nI (jtal (jM S) (jlf S i) (jN S) a) = z)) 4) i + jct (fun a => a != jA S i && decide (nI (jtal (jM S) (jlf S i) (jN S) a) = z)) a) + 1)))), (3, .int (nI (i))), (4, .int (nI ((a + 1))))]) 4 (nI ((a + 1))) dX0_spectrum_58 rfl (ja_inc _) (by decide) rfl rfl ?_
                refine ja_goto K (tgt := 27) dX0_spectrum_61 (by decide) ?_
                have e90 : jsm (fun i => jct (fun a => a != jA S i && decide (nI (jtal (jM S) (jlf S i) (jN S) a) = z)) 4) i + jct (fun a => a != jA S i && decide (nI (jtal (jM S) (jlf S i) (jN S) a) = z)) (a + 1) = ((jsm (fun i => jct (fun a => a != jA S i && decide (nI (jtal (jM S) (jlf S i) (jN S) a) = z)) 4) i + jct (fun a => a != jA S i && decide (nI (jtal (jM S) (jlf S i) (jN S) a) = z)) a) + 1) := by rw [show jct (fun a => a != jA S i && decide (nI (jtal (jM S) (jlf S i) (jN S) a) = z)) (a + 1) = jct (fun a => a != jA S i && decide (nI (jtal (jM S) (jlf S i) (jN S) a) = z)) a + (if (a != jA S i && decide (nI (jtal (jM S) (jlf S i) (jN S) a) = z)) = true then 1 else 0) from rfl]; first | (rw [if_pos (by simp [h41, h52])]; done) | (rw [if_pos (by simp at h52; simp [h41, h52])]; omega) | (rw [if_neg (by simp [h41, h52])]; rfl)
                have k9 := IH27 (a + 1) (by omega) (by omega)
                rw [e90] at k9
                exact k9
        exact L27 0 (Nat.zero_le _)
    exact L11 0 u ⟨Nat.zero_le _, hS9⟩
  · refine ja_iconst K (nI 0) dX0_spectrum_5 (by decide) ?_
    exact ja_iret K (u) rfl (Nat.zero_le _) (Nat.zero_le _) dX0_spectrum_6 hQ9 rfl ⟨by rw [jspec, if_neg h2], hS9⟩
