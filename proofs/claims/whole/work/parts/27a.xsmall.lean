set_option maxRecDepth 100000 in
set_option maxHeartbeats 4000000 in
theorem jc_renumber (l : Launch) (D : va_G) (q : Nat → Nat) (cI cZ : ClassId) (u : JX) (B : Nat) (hB : B < 16384) : jkI l yX0_renumber wsX0_renumber ({ frames := 0, cells := 0, slots := 0, locals := 0 }) D vwCl (jxt cI cZ) (jxc q cI cZ) [.ref (q 0), .int (nI B)] (jxc q cI cZ u) (fun r u1 => nI (jct (fun c1 => B.testBit c1) 14) = r ∧ ∃ nb, u1 = jxsB u nb ∧ ∀ c1, c1 < 14 → nb c1 = jeI (if B.testBit c1 = true then some (jct (fun c1 => B.testBit c1) c1) else none)) := by
  refine jkI_of (cc := cX0_renumber) (maxL := 4) (ret := (some .int)) (by decide) rfl (Nat.le_of_ble_eq_true rfl) ?_
  intro p e R s m args below meth c Q A K hn9 hR9 hQ9
  have hu9 : ∀ w ∈ u_ws RX0 TX0 13, w ∈ wsX0_renumber := fun w h => List.mem_cons_of_mem _ (ku_X0 w h)
  show jaW p l e R s m args below meth c 0 0 Q D vwCl A 4 (jxc q cI cZ u) [(0, .ref (q 0)), (1, .int (nI (B)))] 0 []
  refine ja_iconst K (nI 0) dX0_renumber_0 (by decide) ?_
  refine ja_istore_n K (lv1 := [(0, .ref (q 0)), (1, .int (nI (B))), (2, .int (nI 0))]) dX0_renumber_1 (by decide) rfl rfl ?_
  refine ja_iconst K (nI 0) dX0_renumber_2 (by decide) ?_
  refine ja_istore_n K (lv1 := [(0, .ref (q 0)), (1, .int (nI (B))), (2, .int (nI 0)), (3, .int (nI 0))]) dX0_renumber_3 (by decide) rfl rfl ?_
  have L4 : ∀ (i : Nat) (nb : Nat → Int32), (i ≤ 14 ∧ ∀ c1, c1 < i → nb c1 = jeI (if B.testBit c1 = true then some (jct (fun c1 => B.testBit c1) c1) else none)) → jaW p l e R s m args below meth c 0 0 Q D vwCl A 4 (jxc q cI cZ (jxsB u nb)) [(0, .ref (q 0)), (1, .int (nI (B))), (2, .int (nI ((jct (fun c1 => B.testBit c1) i)))), (3, .int (nI (i)))] 4 [] := by
    refine jl_2 (fun (i : Nat) (nb : Nat → Int32) => 14 - i) (fun (i : Nat) (nb : Nat → Int32) => i ≤ 14 ∧ ∀ c1, c1 < i → nb c1 = jeI (if B.testBit c1 = true then some (jct (fun c1 => B.testBit c1) c1) else none)) _ ?_
    intro i nb hI4 IH4
    refine ja_iload_n K 3 dX0_renumber_4 rfl ?_
    refine ja_bipush K (nI 14) dX0_renumber_5 (by decide) ?_
    refine ja_icmp_ge K (tgt := 45) (14 ≤ i) dX0_renumber_7 (by decide) (nI_leI (by omega) (by omega)) (fun h7 => ?_) (fun h7 => ?_)
    · refine ja_iload_n K 2 dX0_renumber_45 rfl ?_
      exact ja_iret K (jxsB u nb) rfl (Nat.zero_le _) (Nat.zero_le _) dX0_renumber_46 hQ9 rfl ⟨by rw [show i = 14 by omega], nb, rfl, fun c1 h1 => hI4.2 c1 (by omega)⟩
    · refine ja_iload_n K 1 dX0_renumber_10 rfl ?_
      refine ja_iload_n K 3 dX0_renumber_11 rfl ?_
      refine ja_ishr K ((nI (B) >>> (nI (i) &&& 31))) dX0_renumber_12 rfl ?_
      refine ja_iconst K (nI 1) dX0_renumber_13 (by decide) ?_
      refine ja_iand K (((nI (B) >>> (nI (i) &&& 31)) &&& nI 1)) dX0_renumber_14 rfl ?_
      refine ja_iconst K (nI 1) dX0_renumber_15 (by decide) ?_
      refine ja_icmp_ne K (tgt := 32) (¬ B.testBit i = true) dX0_renumber_16 (by decide) (not_congr (jbit_get hB (by omega))) (fun h16 => ?_) (fun h16 => ?_)
      · refine ja_aload_n K 0 dX0_renumber_32 rfl ?_
        refine ja_get K hu9 0 rfl rfl 8 (by decide) (List.mem_cons_of_mem _ kfX0_36) rfl rfl dX0_renumber_33 ?_
        refine ja_iload_n K 3 dX0_renumber_36 rfl ?_
        refine ja_iconst K (-1) dX0_renumber_37 (by decide) ?_
        refine ja_iast K (ws1 := jxc q cI cZ (jxsB u (upd nb i (-1)))) 7 0 rfl rfl (i) rfl (by omega) (by decide) dX0_renumber_38 rfl ?_
        refine ja_iinc K (lv1 := [(0, .ref (q 0)), (1, .int (nI (B))), (2, .int (nI ((jct (fun c1 => B.testBit c1) i)))), (3, .int (nI ((i + 1))))]) 3 (nI ((i + 1))) dX0_renumber_39 rfl (ja_inc _) (by decide) rfl rfl ?_
        refine ja_goto K (tgt := 4) dX0_renumber_42 (by decide) ?_
        have e90 : jct (fun c1 => B.testBit c1) (i + 1) = (jct (fun c1 => B.testBit c1) i) := by simp only [jct]; simp [h16]
        have k9 := IH4 (i + 1) (upd nb i ((-1))) ⟨by omega, fun c1 h1 => by
          by_cases q1 : c1 = i
          · subst q1; rw [pk_us]; simp [h16, jeI]
          · rw [pk_un q1]; exact hI4.2 c1 (by omega)⟩ (by omega)
        rw [e90] at k9
        exact k9
      · replace h16 := Decidable.of_not_not h16
        refine ja_aload_n K 0 dX0_renumber_19 rfl ?_
        refine ja_get K hu9 0 rfl rfl 8 (by decide) (List.mem_cons_of_mem _ kfX0_36) rfl rfl dX0_renumber_20 ?_
        refine ja_iload_n K 3 dX0_renumber_23 rfl ?_
        refine ja_iload_n K 2 dX0_renumber_24 rfl ?_
        refine ja_iast K (ws1 := jxc q cI cZ (jxsB u (upd nb i (nI ((jct (fun c1 => B.testBit c1) i)))))) 7 0 rfl rfl (i) rfl (by omega) (by decide) dX0_renumber_25 rfl ?_
        refine ja_iinc K (lv1 := [(0, .ref (q 0)), (1, .int (nI (B))), (2, .int (nI (((jct (fun c1 => B.testBit c1) i) + 1)))), (3, .int (nI (i)))]) 2 (nI (((jct (fun c1 => B.testBit c1) i) + 1))) dX0_renumber_26 rfl (ja_inc _) (by decide) rfl rfl ?_
        refine ja_goto K (tgt := 39) dX0_renumber_29 (by decide) ?_
        refine ja_iinc K (lv1 := [(0, .ref (q 0)), (1, .int (nI (B))), (2, .int (nI (((jct (fun c1 => B.testBit c1) i) + 1)))), (3, .int (nI ((i + 1))))]) 3 (nI ((i + 1))) dX0_renumber_39 rfl (ja_inc _) (by decide) rfl rfl ?_
        refine ja_goto K (tgt := 4) dX0_renumber_42 (by decide) ?_
        have e90 : jct (fun c1 => B.testBit c1) (i + 1) = ((jct (fun c1 => B.testBit c1) i) + 1) := by simp only [jct]; simp [h16]
        have k9 := IH4 (i + 1) (upd nb i (jeI (some (jct (fun c1 => B.testBit c1) i)))) ⟨by omega, fun c1 h1 => by
          by_cases q1 : c1 = i
          · subst q1; rw [pk_us]; simp [h16, jeI]
          · rw [pk_un q1]; exact hI4.2 c1 (by omega)⟩ (by omega)
        rw [e90] at k9
        exact k9
  exact L4 0 (jxB u) ⟨Nat.zero_le _, fun c1 h1 => absurd h1 (Nat.not_lt_zero _)⟩
