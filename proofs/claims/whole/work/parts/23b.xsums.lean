set_option maxRecDepth 100000 in
set_option maxHeartbeats 4000000 in
theorem jc_findMattering (l : Launch) (D : va_G) (q : Nat → Nat) (cI cZ : ClassId) (S : JS) (u : JX) (hW9 : jWf S) (hS9 : jxR1 S u) (x : Nat) (hx : x < 60) : jkI l yX0_findMattering wsX0_findMattering ({ frames := 2, cells := 0, slots := 0, locals := 47 }) D vwCl (jxt cI cZ) (jxc q cI cZ) [.ref (q 0), .int (nI x)] (jxc q cI cZ u) (fun r u1 => ∃ B, nI B = r ∧ jbt S x B ∧ ∃ g, u1 = jxsC u g) := by
  refine jkI_of (cc := cX0_findMattering) (maxL := 4) (ret := (some .int)) (by decide) rfl (Nat.le_of_ble_eq_true rfl) ?_
  intro p e R s m args below meth c Q A K hn9 hR9 hQ9
  obtain ⟨rN, rT, rM, rU, rK, rP, rA, rL, rB⟩ := id hS9
  obtain ⟨wn, wt, wu, wk, wp, wl, wb⟩ := id hW9
  have hu9 : ∀ w ∈ u_ws RX0 TX0 13, w ∈ wsX0_findMattering := fun w h => List.mem_cons_of_mem _ (ku_X0 w h)
  show jaW p l e R s m args below meth c 0 0 Q D vwCl A 4 (jxc q cI cZ u) [(0, .ref (q 0)), (1, .int (nI (x)))] 0 []
  refine ja_aload_n K 0 dX0_findMattering_0 rfl ?_
  refine ja_iload_n K 1 dX0_findMattering_1 rfl ?_
  refine ja_callVV K (q0 := 0) (qc := (RX0, TX0, 13)) (st := []) [.int (nI (x))] (jc_countCarried l D q cI cZ S (u) hW9 hS9 (x) (by omega)) (cwV 1 K.1.2.2.2.2 (gX0_X0_countCarried _) rfl rfl rfl (by decide +kernel) (by rw [hR9]; exact ⟨Nat.le_of_ble_eq_true rfl, Nat.le_of_ble_eq_true rfl⟩)) rfl rfl rfl rfl rfl (Nat.le_of_ble_eq_true rfl) dX0_findMattering_2 (by rw [hR9]; exact ⟨Nat.le_of_ble_eq_true rfl, Nat.le_of_ble_eq_true rfl⟩) (fun u9 h9 => ?_)
  obtain ⟨g2, rfl, hg2⟩ := h9
  refine ja_iconst K (nI 0) dX0_findMattering_5 (by decide) ?_
  refine ja_istore_n K (lv1 := [(0, .ref (q 0)), (1, .int (nI (x))), (2, .int (nI 0))]) dX0_findMattering_6 (by decide) rfl rfl ?_
  refine ja_iconst K (nI 0) dX0_findMattering_7 (by decide) ?_
  refine ja_istore_n K (lv1 := [(0, .ref (q 0)), (1, .int (nI (x))), (2, .int (nI 0)), (3, .int (nI 0))]) dX0_findMattering_8 (by decide) rfl rfl ?_
  have L9 : ∀ (i : Nat) (B : Nat), (i ≤ jN S ∧ B < 16384 ∧ ∀ c1, B.testBit c1 = (decide (c1 < i) && jmatS S x c1)) → jaW p l e R s m args below meth c 0 0 Q D vwCl A 4 (jxc q cI cZ (jxsC (u) g2)) [(0, .ref (q 0)), (1, .int (nI (x))), (2, .int (nI (B))), (3, .int (nI (i)))] 9 [] := by
    refine jl_2 (fun (i : Nat) (B : Nat) => jN S - i) (fun (i : Nat) (B : Nat) => i ≤ jN S ∧ B < 16384 ∧ ∀ c1, B.testBit c1 = (decide (c1 < i) && jmatS S x c1)) _ ?_
    intro i B hI9 IH9
    refine ja_iload_n K 3 dX0_findMattering_9 rfl ?_
    refine ja_aload_n K 0 dX0_findMattering_10 rfl ?_
    refine ja_get K hu9 0 rfl rfl 0 (by decide) (List.mem_cons_of_mem _ kfX0_7) rfl (congrArg (fun z9 => some (Value.int z9)) rN) dX0_findMattering_11 ?_
    refine ja_icmp_ge K (tgt := 48) ((jN S) ≤ i) dX0_findMattering_14 (by decide) (nI_leI (by omega) (by omega)) (fun h14 => ?_) (fun h14 => ?_)
    · refine ja_iload_n K 2 dX0_findMattering_48 rfl ?_
      exact ja_iret K (jxsC (u) g2) rfl (Nat.zero_le _) (Nat.zero_le _) dX0_findMattering_49 hQ9 rfl ⟨B, rfl, ⟨hI9.2.1, fun c1 => by rw [hI9.2.2 c1, show i = jN S by omega]⟩, g2, rfl⟩
    · refine ja_aload_n K 0 dX0_findMattering_17 rfl ?_
      refine ja_get K hu9 0 rfl rfl 2 (by decide) (List.mem_cons_of_mem _ kfX0_17) rfl rfl dX0_findMattering_18 ?_
      refine ja_iload_n K 3 dX0_findMattering_21 rfl ?_
      refine ja_zald K (v := jbI (jM S (i))) 2 1 rfl rfl (i) rfl (by omega) (by decide) (rM _ (by omega)) dX0_findMattering_22 ?_
      refine ja_if_ne K (tgt := 36) (jM S (i) = true) dX0_findMattering_23 (by decide) (jbI_nz _) (fun h23 => ?_) (fun h23 => ?_)
      · refine ja_iload_n K 2 dX0_findMattering_36 rfl ?_
        refine ja_iconst K (nI 1) dX0_findMattering_37 (by decide) ?_
        refine ja_iload_n K 3 dX0_findMattering_38 rfl ?_
        refine ja_ishl K (nI ((2 ^ i))) dX0_findMattering_39 (jone_shl i (by omega)) ?_
        refine ja_ior K (nI ((B ||| 2 ^ i))) dX0_findMattering_40 (jnI_or _ _) ?_
        refine ja_istore_n K (lv1 := [(0, .ref (q 0)), (1, .int (nI (x))), (2, .int (nI ((B ||| 2 ^ i)))), (3, .int (nI (i)))]) dX0_findMattering_41 (by decide) rfl rfl ?_
        refine ja_iinc K (lv1 := [(0, .ref (q 0)), (1, .int (nI (x))), (2, .int (nI ((B ||| 2 ^ i)))), (3, .int (nI ((i + 1))))]) 3 (nI ((i + 1))) dX0_findMattering_42 rfl (ja_inc _) (by decide) rfl rfl ?_
        refine ja_goto K (tgt := 9) dX0_findMattering_45 (by decide) ?_
        exact IH9 (i + 1) (B ||| 2 ^ i) ⟨by omega, jor_lt hI9.2.1 (by omega), jbits_set hI9.2.2 (jmat_t1 h23)⟩ (by omega)
      · refine ja_aload_n K 0 dX0_findMattering_26 rfl ?_
        refine ja_iload_n K 1 dX0_findMattering_27 rfl ?_
        refine ja_iload_n K 3 dX0_findMattering_28 rfl ?_
        have b9 := jfork_le S x i
        refine ja_callVI K (q0 := 0) (qc := (RX0, TX0, 13)) (st := []) [.int (nI (x)), .int (nI (i))] (jc_countLiveChildren l D q cI cZ S (jxsC (u) g2) hW9 hS9 (x) (i) (by omega) (by omega) (fun c1 hc1 => hg2 c1 hc1)) (cwV 2 K.1.2.2.2.2 (gX0_X0_countLiveChildren _) rfl rfl rfl (by decide +kernel) (by rw [hR9]; exact ⟨Nat.le_of_ble_eq_true rfl, Nat.le_of_ble_eq_true rfl⟩)) rfl rfl rfl rfl rfl (Nat.le_of_ble_eq_true rfl) dX0_findMattering_29 (by rw [hR9]; exact ⟨Nat.le_of_ble_eq_true rfl, Nat.le_of_ble_eq_true rfl⟩) (fun r9 u9 h9 => ?_)
        obtain ⟨rfl, rfl⟩ := h9
        refine ja_iconst K (nI 2) dX0_findMattering_32 (by decide) ?_
        refine ja_icmp_lt K (tgt := 42) ((jfork (jN S) (jM S) (jU S (x)) (i)) < 2) dX0_findMattering_33 (by decide) (nI_ltI (by omega) (by omega)) (fun h33 => ?_) (fun h33 => ?_)
        · refine ja_iinc K (lv1 := [(0, .ref (q 0)), (1, .int (nI (x))), (2, .int (nI (B))), (3, .int (nI ((i + 1))))]) 3 (nI ((i + 1))) dX0_findMattering_42 rfl (ja_inc _) (by decide) rfl rfl ?_
          refine ja_goto K (tgt := 9) dX0_findMattering_45 (by decide) ?_
          exact IH9 (i + 1) B ⟨by omega, hI9.2.1, jbits_not hI9.2.2 (jmat_f (by simpa using h23) h33)⟩ (by omega)
        · refine ja_iload_n K 2 dX0_findMattering_36 rfl ?_
          refine ja_iconst K (nI 1) dX0_findMattering_37 (by decide) ?_
          refine ja_iload_n K 3 dX0_findMattering_38 rfl ?_
          refine ja_ishl K (nI ((2 ^ i))) dX0_findMattering_39 (jone_shl i (by omega)) ?_
          refine ja_ior K (nI ((B ||| 2 ^ i))) dX0_findMattering_40 (jnI_or _ _) ?_
          refine ja_istore_n K (lv1 := [(0, .ref (q 0)), (1, .int (nI (x))), (2, .int (nI ((B ||| 2 ^ i)))), (3, .int (nI (i)))]) dX0_findMattering_41 (by decide) rfl rfl ?_
          refine ja_iinc K (lv1 := [(0, .ref (q 0)), (1, .int (nI (x))), (2, .int (nI ((B ||| 2 ^ i)))), (3, .int (nI ((i + 1))))]) 3 (nI ((i + 1))) dX0_findMattering_42 rfl (ja_inc _) (by decide) rfl rfl ?_
          refine ja_goto K (tgt := 9) dX0_findMattering_45 (by decide) ?_
          exact IH9 (i + 1) (B ||| 2 ^ i) ⟨by omega, jor_lt hI9.2.1 (by omega), jbits_set hI9.2.2 (jmat_t2 h33)⟩ (by omega)
  exact L9 0 0 ⟨Nat.zero_le _, by decide, fun c1 => by simp⟩
