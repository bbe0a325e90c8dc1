set_option maxRecDepth 100000 in
set_option maxHeartbeats 4000000 in
theorem jc_meet (l : Launch) (hst9 : l.stackTraces = false) (D : va_G) (q : Nat → Nat) (cI cZ : ClassId) (S : JS) (u : JX) (hW9 : jWf S) (hS9 : jxR1 S u) (x9 a9 b9 : Int32) : jkX l yX0_meet wsX0_meet ({ frames := 6, cells := 1, slots := 6, locals := 90 }) D vwCl (jxt cI cZ) jzs jtx (jxc q cI cZ) [.ref (q 0), .int x9, .int a9, .int b9] (jxc q cI cZ u) (fun r u1 => (jin x9 60 && jin a9 (jN S) && jin b9 (jN S)) = true ∧ jeI (jmeet (jU S (jv x9)) (jv a9) (jv b9)) = r ∧ u = u1) (fun E u1 => u = u1 ∧ E = jEO ∧ (jin x9 60 && jin a9 (jN S) && jin b9 (jN S)) = false) := by
  refine jkX_of (cc := cX0_meet) (maxL := 6) (ret := (some .int)) (by decide) rfl (Nat.le_of_ble_eq_true rfl) ?_
  intro p e R s m args below meth c Q A K hn9 hR9 hEx9 hZ9 hQ9
  obtain ⟨rN, rT, rM, rU, rK, rP, rA, rL, rB⟩ := id hS9
  obtain ⟨wn, wt, wu, wk, wp, wl, wb⟩ := id hW9
  have hu9 : ∀ w ∈ u_ws RX0 TX0 13, w ∈ wsX0_meet := fun w h => List.mem_cons_of_mem _ (ku_X0 w h)
  show jaW p l e R s m args below meth c 0 0 Q D vwCl A 6 (jxc q cI cZ u) [(0, .ref (q 0)), (1, .int (x9)), (2, .int (a9)), (3, .int (b9))] 0 []
  refine ja_iload_n K 1 dX0_meet_0 rfl ?_
  refine ja_callSI K (st := []) [.int (x9)] (jc_isPlace l D q cI cZ (u) (x9)) (va_cwS 1 K.1.2.2.2.2 (gX0_X0_isPlace _) rfl rfl rfl (by decide +kernel) (by rw [hR9]; exact ⟨Nat.le_of_ble_eq_true rfl, Nat.le_of_ble_eq_true rfl⟩)) rfl rfl rfl (Nat.le_of_ble_eq_true rfl) dX0_meet_1 (by rw [hR9]; exact ⟨Nat.le_of_ble_eq_true rfl, Nat.le_of_ble_eq_true rfl⟩) (fun r9 u9 h9 => ?_)
  obtain ⟨rfl, rfl⟩ := h9
  refine ja_if_eq K (tgt := 23) (jin (x9) 60 = false) dX0_meet_4 (by decide) (jbI_ne _) (fun h4 => ?_) (fun h4 => ?_)
  · exact ja_throwS K (names := jnm) (text := "no such place or node") (u) hst9 hEx9 hZ9 (by decide +kernel) (by decide +kernel) (List.mem_cons_of_mem _ kcX0_77) (List.mem_cons_of_mem _ kini_IOB) (by decide +kernel) (fun w h => List.mem_cons_of_mem _ (jvO1 w h)) jvO2 jvO3 dX0_meet_23 dX0_meet_26 dX0_meet_27 dX0_meet_29 dX0_meet_32 (by rw [hR9]; exact Nat.le_of_ble_eq_true rfl) (by rw [hR9]; exact Nat.le_of_ble_eq_true rfl) (by rw [hR9]; exact Nat.le_of_ble_eq_true rfl) (by rw [hR9]; exact Nat.le_of_ble_eq_true rfl) (Nat.le_of_ble_eq_true rfl) (Nat.le_of_ble_eq_true rfl) hQ9 rfl ⟨rfl, rfl, by simp [h4]⟩
  · refine ja_aload_n K 0 dX0_meet_7 rfl ?_
    refine ja_iload_n K 2 dX0_meet_8 rfl ?_
    refine ja_callVI K (q0 := 0) (qc := (RX0, TX0, 13)) (st := []) [.int (a9)] (jc_isNode l D q cI cZ S (u) hW9 hS9 (a9)) (cwV 1 K.1.2.2.2.2 (gX0_X0_isNode _) rfl rfl rfl (by decide +kernel) (by rw [hR9]; exact ⟨Nat.le_of_ble_eq_true rfl, Nat.le_of_ble_eq_true rfl⟩)) rfl rfl rfl rfl rfl (Nat.le_of_ble_eq_true rfl) dX0_meet_9 (by rw [hR9]; exact ⟨Nat.le_of_ble_eq_true rfl, Nat.le_of_ble_eq_true rfl⟩) (fun r9 u9 h9 => ?_)
    obtain ⟨rfl, rfl⟩ := h9
    refine ja_if_eq K (tgt := 23) (jin (a9) (jN S) = false) dX0_meet_12 (by decide) (jbI_ne _) (fun h12 => ?_) (fun h12 => ?_)
    · exact ja_throwS K (names := jnm) (text := "no such place or node") (u) hst9 hEx9 hZ9 (by decide +kernel) (by decide +kernel) (List.mem_cons_of_mem _ kcX0_77) (List.mem_cons_of_mem _ kini_IOB) (by decide +kernel) (fun w h => List.mem_cons_of_mem _ (jvO1 w h)) jvO2 jvO3 dX0_meet_23 dX0_meet_26 dX0_meet_27 dX0_meet_29 dX0_meet_32 (by rw [hR9]; exact Nat.le_of_ble_eq_true rfl) (by rw [hR9]; exact Nat.le_of_ble_eq_true rfl) (by rw [hR9]; exact Nat.le_of_ble_eq_true rfl) (by rw [hR9]; exact Nat.le_of_ble_eq_true rfl) (Nat.le_of_ble_eq_true rfl) (Nat.le_of_ble_eq_true rfl) hQ9 rfl ⟨rfl, rfl, by simp [h4, h12]⟩
    · refine ja_aload_n K 0 dX0_meet_15 rfl ?_
      refine ja_iload_n K 3 dX0_meet_16 rfl ?_
      refine ja_callVI K (q0 := 0) (qc := (RX0, TX0, 13)) (st := []) [.int (b9)] (jc_isNode l D q cI cZ S (u) hW9 hS9 (b9)) (cwV 1 K.1.2.2.2.2 (gX0_X0_isNode _) rfl rfl rfl (by decide +kernel) (by rw [hR9]; exact ⟨Nat.le_of_ble_eq_true rfl, Nat.le_of_ble_eq_true rfl⟩)) rfl rfl rfl rfl rfl (Nat.le_of_ble_eq_true rfl) dX0_meet_17 (by rw [hR9]; exact ⟨Nat.le_of_ble_eq_true rfl, Nat.le_of_ble_eq_true rfl⟩) (fun r9 u9 h9 => ?_)
      obtain ⟨rfl, rfl⟩ := h9
      refine ja_if_ne K (tgt := 33) (jin (b9) (jN S) = true) dX0_meet_20 (by decide) (jbI_nz _) (fun h20 => ?_) (fun h20 => ?_)
      · obtain ⟨x0, hx0, rfl⟩ := jin_of (n := 60) (by simpa using h4) (by omega)
        have vx0 := jv_nI (n := x0) (by omega)
        obtain ⟨a0, ha0, rfl⟩ := jin_of (n := jN S) (by simpa using h12) (by omega)
        have va0 := jv_nI (n := a0) (by omega)
        obtain ⟨b0, hb0, rfl⟩ := jin_of (n := jN S) (by simpa using h20) (by omega)
        have vb0 := jv_nI (n := b0) (by omega)
        refine ja_iload_n K 2 dX0_meet_33 rfl ?_
        refine ja_istore K (lv1 := [(0, .ref (q 0)), (1, .int (nI (x0))), (2, .int (nI (a0))), (3, .int (nI (b0))), (4, .int (nI (a0)))]) dX0_meet_34 (by decide) rfl rfl ?_
        refine ja_iconst K (nI 0) dX0_meet_36 (by decide) ?_
        refine ja_istore K (lv1 := [(0, .ref (q 0)), (1, .int (nI (x0))), (2, .int (nI (a0))), (3, .int (nI (b0))), (4, .int (nI (a0))), (5, .int (nI 0))]) dX0_meet_37 (by decide) rfl rfl ?_
        have L39 : ∀ (k : Nat) (d0 : Nat) (o : Option Nat), (k + d0 = 14 ∧ (∀ y, o = some y → y < jN S) ∧ jpF (jU S x0) (fun y => jhold (jU S x0) y b0) d0 o = jmeet (jU S x0) a0 b0) → jaW p l e R s m args below meth c 0 0 Q D vwCl A 6 (jxc q cI cZ u) [(0, .ref (q 0)), (1, .int (nI (x0))), (2, .int (nI (a0))), (3, .int (nI (b0))), (4, .int (jeI (o))), (5, .int (nI (k)))] 39 [] := by
          refine jl_3 (fun (k : Nat) (d0 : Nat) (o : Option Nat) => d0) (fun (k : Nat) (d0 : Nat) (o : Option Nat) => k + d0 = 14 ∧ (∀ y, o = some y → y < jN S) ∧ jpF (jU S x0) (fun y => jhold (jU S x0) y b0) d0 o = jmeet (jU S x0) a0 b0) _ ?_
          intro k d0 o hI39 IH39
          refine ja_iload K 5 dX0_meet_39 rfl ?_
          refine ja_bipush K (nI 14) dX0_meet_41 (by decide) ?_
          refine ja_icmp_ge K (tgt := 81) (14 ≤ k) dX0_meet_43 (by decide) (nI_leI (by omega) (by omega)) (fun h43 => ?_) (fun h43 => ?_)
          · obtain rfl : d0 = 0 := by omega
            refine ja_iconst K (-1) dX0_meet_81 (by decide) ?_
            exact ja_iretX K (u) rfl (by rfl) (Nat.zero_le _) (Nat.zero_le _) dX0_meet_82 hQ9 rfl ⟨by simp at h4 h12; simp [h4, h12, h20], by rw [vx0, va0, vb0, ← hI39.2.2]; simp [jpF, jeI], rfl⟩
          · obtain ⟨d, rfl⟩ : ∃ d1, d0 = d1 + 1 := ⟨d0 - 1, by omega⟩
            refine ja_iload K 4 dX0_meet_46 rfl ?_
            refine ja_iconst K (-1) dX0_meet_48 (by decide) ?_
            refine ja_icmp_eq K (tgt := 81) (o = none) dX0_meet_49 (by decide) (jeI_m1 (o := o) (fun p9 h9 => by have := hI39.2.1 p9 h9; omega)) (fun h49 => ?_) (fun h49 => ?_)
            · subst h49
              refine ja_iconst K (-1) dX0_meet_81 (by decide) ?_
              exact ja_iretX K (u) rfl (by rfl) (Nat.zero_le _) (Nat.zero_le _) dX0_meet_82 hQ9 rfl ⟨by simp at h4 h12; simp [h4, h12, h20], by rw [vx0, va0, vb0, ← hI39.2.2]; simp [jpF, jeI], rfl⟩
            · obtain ⟨y49, rfl⟩ := Option.ne_none_iff_exists'.mp h49
              have by49 := hI39.2.1 y49 rfl
              refine ja_aload_n K 0 dX0_meet_52 rfl ?_
              refine ja_iload_n K 1 dX0_meet_53 rfl ?_
              refine ja_iload K 4 dX0_meet_54 rfl ?_
              refine ja_iload_n K 3 dX0_meet_56 rfl ?_
              refine ja_callVI K (q0 := 0) (qc := (RX0, TX0, 13)) (st := []) [.int (nI (x0)), .int (nI (y49)), .int (nI (b0))] (jc_isAtOrAbove l D q cI cZ S (u) hW9 hS9 (x0) (y49) (b0) (by omega) (by omega) (by omega)) (cwV 3 K.1.2.2.2.2 (gX0_X0_isAtOrAbove _) rfl rfl rfl (by decide +kernel) (by rw [hR9]; exact ⟨Nat.le_of_ble_eq_true rfl, Nat.le_of_ble_eq_true rfl⟩)) rfl rfl rfl rfl rfl (Nat.le_of_ble_eq_true rfl) dX0_meet_57 (by rw [hR9]; exact ⟨Nat.le_of_ble_eq_true rfl, Nat.le_of_ble_eq_true rfl⟩) (fun r9 u9 h9 => ?_)
              obtain ⟨rfl, rfl⟩ := h9
              refine ja_if_eq K (tgt := 66) (jhold (jU S (x0)) (y49) (b0) = false) dX0_meet_60 (by decide) (jbI_ne _) (fun h60 => ?_) (fun h60 => ?_)
              · refine ja_aload_n K 0 dX0_meet_66 rfl ?_
                refine ja_iload_n K 1 dX0_meet_67 rfl ?_
                refine ja_iload K 4 dX0_meet_68 rfl ?_
                refine ja_callVI K (q0 := 0) (qc := (RX0, TX0, 13)) (st := []) [.int (nI (x0)), .int (nI (y49))] (jc_parentAt l D q cI cZ (u) (x0) (y49) (by omega) (by omega) (jU S (x0) (y49)) (rU _ _ (by omega) (by omega))) (cwV 2 K.1.2.2.2.2 (gX0_X0_parentAt _) rfl rfl rfl (by decide +kernel) (by rw [hR9]; exact ⟨Nat.le_of_ble_eq_true rfl, Nat.le_of_ble_eq_true rfl⟩)) rfl rfl rfl rfl rfl (Nat.le_of_ble_eq_true rfl) dX0_meet_70 (by rw [hR9]; exact ⟨Nat.le_of_ble_eq_true rfl, Nat.le_of_ble_eq_true rfl⟩) (fun r9 u9 h9 => ?_)
                obtain ⟨rfl, rfl⟩ := h9
                refine ja_istore K (lv1 := [(0, .ref (q 0)), (1, .int (nI (x0))), (2, .int (nI (a0))), (3, .int (nI (b0))), (4, .int (jeI (jU S (x0) (y49)))), (5, .int (nI (k)))]) dX0_meet_73 (by decide) rfl rfl ?_
                refine ja_iinc K (lv1 := [(0, .ref (q 0)), (1, .int (nI (x0))), (2, .int (nI (a0))), (3, .int (nI (b0))), (4, .int (jeI (jU S (x0) (y49)))), (5, .int (nI ((k + 1))))]) 5 (nI ((k + 1))) dX0_meet_75 rfl (ja_inc _) (by decide) rfl rfl ?_
                refine ja_goto K (tgt := 39) dX0_meet_78 (by decide) ?_
                have k9 := IH39 (k + 1) d (jU S x0 y49) ⟨by omega, fun z hz => (wu _ _ z hz).2.1, by rw [← hI39.2.2]; simp [jpF, h60]⟩ (by omega)
                exact k9
              · refine ja_iload K 4 dX0_meet_63 rfl ?_
                exact ja_iretX K (u) rfl (by rfl) (Nat.zero_le _) (Nat.zero_le _) dX0_meet_65 hQ9 rfl ⟨by simp at h4 h12; simp [h4, h12, h20], by rw [vx0, va0, vb0, ← hI39.2.2]; simp at h60; simp [jpF, h60, jeI], rfl⟩
        exact L39 0 14 (some a0) ⟨rfl, fun y h => (by cases h; exact ha0), rfl⟩
      · exact ja_throwS K (names := jnm) (text := "no such place or node") (u) hst9 hEx9 hZ9 (by decide +kernel) (by decide +kernel) (List.mem_cons_of_mem _ kcX0_77) (List.mem_cons_of_mem _ kini_IOB) (by decide +kernel) (fun w h => List.mem_cons_of_mem _ (jvO1 w h)) jvO2 jvO3 dX0_meet_23 dX0_meet_26 dX0_meet_27 dX0_meet_29 dX0_meet_32 (by rw [hR9]; exact Nat.le_of_ble_eq_true rfl) (by rw [hR9]; exact Nat.le_of_ble_eq_true rfl) (by rw [hR9]; exact Nat.le_of_ble_eq_true rfl) (by rw [hR9]; exact Nat.le_of_ble_eq_true rfl) (Nat.le_of_ble_eq_true rfl) (Nat.le_of_ble_eq_true rfl) hQ9 rfl ⟨rfl, rfl, by simp [h4, h12, h20]⟩
