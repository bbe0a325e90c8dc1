set_option maxRecDepth 100000 in
set_option maxHeartbeats 4000000 in
theorem jc_site (l : Launch) (hst9 : l.stackTraces = false) (D : va_G) (q : Nat → Nat) (cI cZ : ClassId) (S : JS) (u : JX) (hW9 : jWf S) (hS9 : jxR1 S u) (x9 a : Int32) : jkX l yX0_site wsX0_site ({ frames := 6, cells := 1, slots := 6, locals := 90 }) D vwCl (jxt cI cZ) jzs jtx (jxc q cI cZ) [.ref (q 0), .int x9, .int a] (jxc q cI cZ u) (fun r u1 => jcS S x9 a = 0 ∧ nI (jK S) = r ∧ jxR1 (jaddS S x9 a) u1) (fun E u1 => u = u1 ∧ ((E = jEO ∧ jcS S x9 a = 1) ∨ (E = jEA ∧ jcS S x9 a = 2) ∨ (E = jES ∧ jcS S x9 a = 3))) := by
  refine jkX_of (cc := cX0_site) (maxL := 3) (ret := (some .int)) (by decide) rfl (Nat.le_of_ble_eq_true rfl) ?_
  intro p e R s m args below meth c Q A K hn9 hR9 hEx9 hZ9 hQ9
  obtain ⟨rN, rT, rM, rU, rK, rP, rA, rL, rB⟩ := id hS9
  obtain ⟨wn, wt, wu, wk, wp, wl, wb⟩ := id hW9
  have hu9 : ∀ w ∈ u_ws RX0 TX0 13, w ∈ wsX0_site := fun w h => List.mem_cons_of_mem _ (ku_X0 w h)
  show jaW p l e R s m args below meth c 0 0 Q D vwCl A 3 (jxc q cI cZ u) [(0, .ref (q 0)), (1, .int (x9)), (2, .int (a))] 0 []
  refine ja_iload_n K 1 dX0_site_0 rfl ?_
  refine ja_callSI K (st := []) [.int (x9)] (jc_isPlace l D q cI cZ (u) (x9)) (va_cwS 1 K.1.2.2.2.2 (gX0_X0_isPlace _) rfl rfl rfl (by decide +kernel) (by rw [hR9]; exact ⟨Nat.le_of_ble_eq_true rfl, Nat.le_of_ble_eq_true rfl⟩)) rfl rfl rfl (Nat.le_of_ble_eq_true rfl) dX0_site_1 (by rw [hR9]; exact ⟨Nat.le_of_ble_eq_true rfl, Nat.le_of_ble_eq_true rfl⟩) (fun r9 u9 h9 => ?_)
  obtain ⟨rfl, rfl⟩ := h9
  refine ja_if_ne K (tgt := 17) (jin (x9) 60 = true) dX0_site_4 (by decide) (jbI_nz _) (fun h4 => ?_) (fun h4 => ?_)
  · obtain ⟨x0, hx0, rfl⟩ := jin_of (n := 60) (by simpa using h4) (by omega)
    have vx0 := jv_nI (n := x0) (by omega)
    refine ja_iload_n K 2 dX0_site_17 rfl ?_
    refine ja_if_lt K (tgt := 34) (a < 0) dX0_site_18 (by decide) Iff.rfl (fun h18 => ?_) (fun h18 => ?_)
    · have f18 : jin a 4 = false := jin_ff1 h18
      exact ja_throwS K (names := jnm) (text := "no letter, or the place has a site") (u) hst9 hEx9 hZ9 (by decide +kernel) (by decide +kernel) (List.mem_cons_of_mem _ kcX0_57) (List.mem_cons_of_mem _ kini_IAE) (by decide +kernel) (fun w h => List.mem_cons_of_mem _ (jvA1 w h)) jvA2 jvA3 dX0_site_34 dX0_site_37 dX0_site_38 dX0_site_40 dX0_site_43 (by rw [hR9]; exact Nat.le_of_ble_eq_true rfl) (by rw [hR9]; exact Nat.le_of_ble_eq_true rfl) (by rw [hR9]; exact Nat.le_of_ble_eq_true rfl) (by rw [hR9]; exact Nat.le_of_ble_eq_true rfl) (Nat.le_of_ble_eq_true rfl) (Nat.le_of_ble_eq_true rfl) hQ9 rfl ⟨rfl, Or.inr (Or.inl ⟨rfl, by simp [jcS, h4, vx0, h18, f18]⟩)⟩
    · refine ja_iload_n K 2 dX0_site_21 rfl ?_
      refine ja_iconst K (nI 4) dX0_site_22 (by decide) ?_
      refine ja_icmp_ge K (tgt := 34) (nI 4 ≤ a) dX0_site_23 (by decide) Iff.rfl (fun h23 => ?_) (fun h23 => ?_)
      · have f23 : jin a 4 = false := jin_ff2 (by rw [Int32.lt_iff_toInt_lt]; rw [Int32.le_iff_toInt_le] at h23; omega)
        exact ja_throwS K (names := jnm) (text := "no letter, or the place has a site") (u) hst9 hEx9 hZ9 (by decide +kernel) (by decide +kernel) (List.mem_cons_of_mem _ kcX0_57) (List.mem_cons_of_mem _ kini_IAE) (by decide +kernel) (fun w h => List.mem_cons_of_mem _ (jvA1 w h)) jvA2 jvA3 dX0_site_34 dX0_site_37 dX0_site_38 dX0_site_40 dX0_site_43 (by rw [hR9]; exact Nat.le_of_ble_eq_true rfl) (by rw [hR9]; exact Nat.le_of_ble_eq_true rfl) (by rw [hR9]; exact Nat.le_of_ble_eq_true rfl) (by rw [hR9]; exact Nat.le_of_ble_eq_true rfl) (Nat.le_of_ble_eq_true rfl) (Nat.le_of_ble_eq_true rfl) hQ9 rfl ⟨rfl, Or.inr (Or.inl ⟨rfl, by simp [jcS, h4, vx0, h18, h23, f23]⟩)⟩
      · have f23 : jin a 4 = true := jin_tt h18 (by rw [Int32.lt_iff_toInt_lt]; rw [Int32.le_iff_toInt_le] at h23; omega)
        obtain ⟨a0, ha0, rfl⟩ := jin_of f23 (by omega)
        have va0 := jv_nI (n := a0) (by omega)
        refine ja_aload_n K 0 dX0_site_26 rfl ?_
        refine ja_iload_n K 1 dX0_site_27 rfl ?_
        refine ja_callVI K (q0 := 0) (qc := (RX0, TX0, 13)) (st := []) [.int (nI (x0))] (jc_hasSite l D q cI cZ S (u) hW9 hS9 (x0) (by omega)) (cwV 1 K.1.2.2.2.2 (gX0_X0_hasSite _) rfl rfl rfl (by decide +kernel) (by rw [hR9]; exact ⟨Nat.le_of_ble_eq_true rfl, Nat.le_of_ble_eq_true rfl⟩)) rfl rfl rfl rfl rfl (Nat.le_of_ble_eq_true rfl) dX0_site_28 (by rw [hR9]; exact ⟨Nat.le_of_ble_eq_true rfl, Nat.le_of_ble_eq_true rfl⟩) (fun r9 u9 h9 => ?_)
        obtain ⟨rfl, rfl⟩ := h9
        refine ja_if_eq K (tgt := 44) (jany (fun j => jP S j == (x0)) (jK S) = false) dX0_site_31 (by decide) (jbI_ne _) (fun h31 => ?_) (fun h31 => ?_)
        · have f31 : jtaken S x0 = false := h31
          refine ja_aload_n K 0 dX0_site_44 rfl ?_
          refine ja_get K hu9 0 rfl rfl 4 (by decide) (List.mem_cons_of_mem _ kfX0_24) rfl (congrArg (fun z9 => some (Value.int z9)) rK) dX0_site_45 ?_
          refine ja_bipush K (nI 8) dX0_site_48 (by decide) ?_
          refine ja_icmp_lt K (tgt := 63) ((jK S) < 8) dX0_site_50 (by decide) (nI_ltI (by omega) (by omega)) (fun h50 => ?_) (fun h50 => ?_)
          · have f50 : ¬ jK S = 8 := by omega
            refine ja_aload_n K 0 dX0_site_63 rfl ?_
            refine ja_get K hu9 0 rfl rfl 5 (by decide) (List.mem_cons_of_mem _ kfX0_27) rfl rfl dX0_site_64 ?_
            refine ja_aload_n K 0 dX0_site_67 rfl ?_
            refine ja_get K hu9 0 rfl rfl 4 (by decide) (List.mem_cons_of_mem _ kfX0_24) rfl (congrArg (fun z9 => some (Value.int z9)) rK) dX0_site_68 ?_
            refine ja_iload_n K 1 dX0_site_71 rfl ?_
            refine ja_iast K (ws1 := jxc q cI cZ (jxsP (u) (upd (jxP (u)) ((jK S)) (nI (x0))))) 4 0 rfl rfl ((jK S)) rfl (by omega) (by decide) dX0_site_72 rfl ?_
            refine ja_aload_n K 0 dX0_site_73 rfl ?_
            refine ja_get K hu9 0 rfl rfl 6 (by decide) (List.mem_cons_of_mem _ kfX0_30) rfl rfl dX0_site_74 ?_
            refine ja_aload_n K 0 dX0_site_77 rfl ?_
            refine ja_get K hu9 0 rfl rfl 4 (by decide) (List.mem_cons_of_mem _ kfX0_24) rfl (congrArg (fun z9 => some (Value.int z9)) rK) dX0_site_78 ?_
            refine ja_iload_n K 2 dX0_site_81 rfl ?_
            refine ja_iast K (ws1 := jxc q cI cZ (jxsA (jxsP (u) (upd (jxP (u)) ((jK S)) (nI (x0)))) (upd (jxA (jxsP (u) (upd (jxP (u)) ((jK S)) (nI (x0))))) ((jK S)) (nI (a0))))) 5 0 rfl rfl ((jK S)) rfl (by omega) (by decide) dX0_site_82 rfl ?_
            refine ja_aload_n K 0 dX0_site_83 rfl ?_
            refine ja_dup K dX0_site_84 rfl ?_
            refine ja_get K hu9 0 rfl rfl 4 (by decide) (List.mem_cons_of_mem _ kfX0_24) rfl (congrArg (fun z9 => some (Value.int z9)) rK) dX0_site_85 ?_
            refine ja_iconst K (nI 1) dX0_site_88 (by decide) ?_
            refine ja_iadd K (nI (((jK S) + 1))) dX0_site_89 (nI_add _ _) ?_
            refine ja_put K (ws1 := jxc q cI cZ (jxsK (jxsA (jxsP (u) (upd (jxP (u)) ((jK S)) (nI (x0)))) (upd (jxA (jxsP (u) (upd (jxP (u)) ((jK S)) (nI (x0))))) ((jK S)) (nI (a0)))) (nI (((jK S) + 1))))) hu9 0 rfl rfl 4 (by decide) (List.mem_cons_of_mem _ kfX0_24) rfl tyX0 tyX0_ok nmX0 rfl rfl rfl rfl (Nat.le_of_ble_eq_true rfl) dX0_site_90 rfl ?_
            refine ja_aload_n K 0 dX0_site_93 rfl ?_
            refine ja_get K hu9 0 rfl rfl 4 (by decide) (List.mem_cons_of_mem _ kfX0_24) rfl rfl dX0_site_94 ?_
            refine ja_iconst K (nI 1) dX0_site_97 (by decide) ?_
            refine ja_isub K (nI ((((jK S) + 1) - 1))) dX0_site_98 (pk_sub (by omega)) ?_
            exact ja_iretX K (jxsK (jxsA (jxsP (u) (upd (jxP (u)) ((jK S)) (nI (x0)))) (upd (jxA (jxsP (u) (upd (jxP (u)) ((jK S)) (nI (x0))))) ((jK S)) (nI (a0)))) (nI (((jK S) + 1)))) rfl (by rfl) (Nat.zero_le _) (Nat.zero_le _) dX0_site_99 hQ9 rfl ⟨by simp [jcS, h4, vx0, f23, va0, h31, f31, h50, f50], rfl, jxR1_addS hS9 hx0 ha0⟩
          · have f50 : jK S = 8 := by omega
            exact ja_throwS K (names := jnm) (text := "there are 8 sites") (u) hst9 hEx9 hZ9 (by decide +kernel) (by decide +kernel) (List.mem_cons_of_mem _ kcX0_64) (List.mem_cons_of_mem _ kini_ISE) (by decide +kernel) (fun w h => List.mem_cons_of_mem _ (jvS1 w h)) jvS2 jvS3 dX0_site_53 dX0_site_56 dX0_site_57 dX0_site_59 dX0_site_62 (by rw [hR9]; exact Nat.le_of_ble_eq_true rfl) (by rw [hR9]; exact Nat.le_of_ble_eq_true rfl) (by rw [hR9]; exact Nat.le_of_ble_eq_true rfl) (by rw [hR9]; exact Nat.le_of_ble_eq_true rfl) (Nat.le_of_ble_eq_true rfl) (Nat.le_of_ble_eq_true rfl) hQ9 rfl ⟨rfl, Or.inr (Or.inr (⟨rfl, by simp [jcS, h4, vx0, f23, va0, h31, f31, h50, f50]⟩))⟩
        · have f31 : jtaken S x0 = true := eq_true_of_ne_false h31
          exact ja_throwS K (names := jnm) (text := "no letter, or the place has a site") (u) hst9 hEx9 hZ9 (by decide +kernel) (by decide +kernel) (List.mem_cons_of_mem _ kcX0_57) (List.mem_cons_of_mem _ kini_IAE) (by decide +kernel) (fun w h => List.mem_cons_of_mem _ (jvA1 w h)) jvA2 jvA3 dX0_site_34 dX0_site_37 dX0_site_38 dX0_site_40 dX0_site_43 (by rw [hR9]; exact Nat.le_of_ble_eq_true rfl) (by rw [hR9]; exact Nat.le_of_ble_eq_true rfl) (by rw [hR9]; exact Nat.le_of_ble_eq_true rfl) (by rw [hR9]; exact Nat.le_of_ble_eq_true rfl) (Nat.le_of_ble_eq_true rfl) (Nat.le_of_ble_eq_true rfl) hQ9 rfl ⟨rfl, Or.inr (Or.inl ⟨rfl, by simp [jcS, h4, vx0, f23, va0, h31, f31]⟩)⟩
  · exact ja_throwS K (names := jnm) (text := "no such place") (u) hst9 hEx9 hZ9 (by decide +kernel) (by decide +kernel) (List.mem_cons_of_mem _ kcX0_77) (List.mem_cons_of_mem _ kini_IOB) (by decide +kernel) (fun w h => List.mem_cons_of_mem _ (jvO1 w h)) jvO2 jvO3 dX0_site_7 dX0_site_10 dX0_site_11 dX0_site_13 dX0_site_16 (by rw [hR9]; exact Nat.le_of_ble_eq_true rfl) (by rw [hR9]; exact Nat.le_of_ble_eq_true rfl) (by rw [hR9]; exact Nat.le_of_ble_eq_true rfl) (by rw [hR9]; exact Nat.le_of_ble_eq_true rfl) (Nat.le_of_ble_eq_true rfl) (Nat.le_of_ble_eq_true rfl) hQ9 rfl ⟨rfl, Or.inl ⟨rfl, by simp [jcS, h4]⟩⟩
