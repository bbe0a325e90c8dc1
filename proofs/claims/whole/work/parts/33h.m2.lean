set_option maxRecDepth 100000 in
set_option maxHeartbeats 4000000 in
theorem jd_site (l : Launch) (D : va_G) (q : Nat → Nat) (cI cZ : ClassId) (S : JS) (u : JM) (hW9 : jWf S) (hS9 : jmR1 S u) (x9 a : Int32) : jkI l yX1_site wsX1_site ({ frames := 1, cells := 0, slots := 0, locals := 23 }) D vwCl (jxt cI cZ) (jmc q cI cZ) [.ref (q 0), .int x9, .int a] (jmc q cI cZ u) (fun r u1 => jmF u1 = nI (jcS S x9 a) ∧ ((jcS S x9 a) = 0 → nI (jK S) = r) ∧ ((jcS S x9 a) = 0 → jmR1 (jaddS S x9 a) u1) ∧ (¬ (jcS S x9 a) = 0 → jmR1 S u1)) := by
  refine jkI_of (cc := cX1_site) (maxL := 3) (ret := (some .int)) (by decide) rfl (Nat.le_of_ble_eq_true rfl) ?_
  intro p e R s m args below meth c Q A K hn9 hR9 hQ9
  obtain ⟨rN, rT, rM, rU, rK, rP, rA, rL, rB⟩ := id hS9
  obtain ⟨wn, wt, wu, wk, wp, wl, wb⟩ := id hW9
  have hu9 : ∀ w ∈ u_ws RX1 TX1 16, w ∈ wsX1_site := fun w h => List.mem_cons_of_mem _ (ku_X1 w h)
  show jaW p l e R s m args below meth c 0 0 Q D vwCl A 3 (jmc q cI cZ u) [(0, .ref (q 0)), (1, .int (x9)), (2, .int (a))] 0 []
  refine ja_aload_n K 0 dX1_site_0 rfl ?_
  refine ja_iload_n K 1 dX1_site_1 rfl ?_
  refine ja_callSI K (st := [.ref (q 0)]) [.int (x9)] (jd_isPlace l D q cI cZ (u) (x9)) (va_cwS 1 K.1.2.2.2.2 (gX1_X1_isPlace _) rfl rfl rfl (by decide +kernel) (by rw [hR9]; exact ⟨Nat.le_of_ble_eq_true rfl, Nat.le_of_ble_eq_true rfl⟩)) rfl rfl rfl (Nat.le_of_ble_eq_true rfl) dX1_site_2 (by rw [hR9]; exact ⟨Nat.le_of_ble_eq_true rfl, Nat.le_of_ble_eq_true rfl⟩) (fun r9 u9 h9 => ?_)
  obtain ⟨rfl, rfl⟩ := h9
  refine ja_if_ne K (tgt := 12) (jin (x9) 60 = true) dX1_site_5 (by decide) (jbI_nz _) (fun h5 => ?_) (fun h5 => ?_)
  · obtain ⟨x0, hx0, rfl⟩ := jin_of (n := 60) (by simpa using h5) (by omega)
    have vx0 := jv_nI (n := x0) (by omega)
    refine ja_iload_n K 2 dX1_site_12 rfl ?_
    refine ja_if_lt K (tgt := 29) (a < 0) dX1_site_13 (by decide) Iff.rfl (fun h13 => ?_) (fun h13 => ?_)
    · have f13 : jin a 4 = false := jin_ff1 h13
      refine ja_iconst K (nI 2) dX1_site_29 (by decide) ?_
      refine ja_goto K (tgt := 47) dX1_site_30 (by decide) ?_
      refine ja_callVI K (q0 := 0) (qc := (RX1, TX1, 16)) (st := []) [.int (nI 2)] (jd_refused l D q cI cZ (u) (2) (by omega)) (cwV 1 K.1.2.2.2.2 (gX1_X1_refused _) rfl rfl rfl (by decide +kernel) (by rw [hR9]; exact ⟨Nat.le_of_ble_eq_true rfl, Nat.le_of_ble_eq_true rfl⟩)) rfl rfl rfl rfl rfl (Nat.le_of_ble_eq_true rfl) dX1_site_47 (by rw [hR9]; exact ⟨Nat.le_of_ble_eq_true rfl, Nat.le_of_ble_eq_true rfl⟩) (fun r9 u9 h9 => ?_)
      obtain ⟨rfl, rfl⟩ := h9
      refine ja_if_eq K (tgt := 55) (decide (0 < 2) = false) dX1_site_50 (by decide) (jbI_ne _) (fun h50 => ?_) (fun h50 => ?_)
      · exact absurd h50 (by decide)
      · refine ja_iconst K (nI 0) dX1_site_53 (by decide) ?_
        exact ja_iret K (jmsF (u) (nI 2)) rfl (Nat.zero_le _) (Nat.zero_le _) dX1_site_54 hQ9 rfl ⟨by rw [show jcS S _ _ = 2 by simp [jcS, h5, vx0, h13, f13, h50]]; rfl, fun h => (by rw [show jcS S _ _ = 2 by simp [jcS, h5, vx0, h13, f13, h50]] at h; cases h), fun h => (by rw [show jcS S _ _ = 2 by simp [jcS, h5, vx0, h13, f13, h50]] at h; cases h), fun _ => hS9⟩
    · refine ja_iload_n K 2 dX1_site_16 rfl ?_
      refine ja_iconst K (nI 3) dX1_site_17 (by decide) ?_
      refine ja_icmp_gt K (tgt := 29) (nI 3 < a) dX1_site_18 (by decide) Iff.rfl (fun h18 => ?_) (fun h18 => ?_)
      · have f18 : jin a 4 = false := jin_ff3 (k := 3) (by decide) (by rw [Int32.le_iff_toInt_le]; rw [Int32.lt_iff_toInt_lt] at h18; omega)
        refine ja_iconst K (nI 2) dX1_site_29 (by decide) ?_
        refine ja_goto K (tgt := 47) dX1_site_30 (by decide) ?_
        refine ja_callVI K (q0 := 0) (qc := (RX1, TX1, 16)) (st := []) [.int (nI 2)] (jd_refused l D q cI cZ (u) (2) (by omega)) (cwV 1 K.1.2.2.2.2 (gX1_X1_refused _) rfl rfl rfl (by decide +kernel) (by rw [hR9]; exact ⟨Nat.le_of_ble_eq_true rfl, Nat.le_of_ble_eq_true rfl⟩)) rfl rfl rfl rfl rfl (Nat.le_of_ble_eq_true rfl) dX1_site_47 (by rw [hR9]; exact ⟨Nat.le_of_ble_eq_true rfl, Nat.le_of_ble_eq_true rfl⟩) (fun r9 u9 h9 => ?_)
        obtain ⟨rfl, rfl⟩ := h9
        refine ja_if_eq K (tgt := 55) (decide (0 < 2) = false) dX1_site_50 (by decide) (jbI_ne _) (fun h50 => ?_) (fun h50 => ?_)
        · exact absurd h50 (by decide)
        · refine ja_iconst K (nI 0) dX1_site_53 (by decide) ?_
          exact ja_iret K (jmsF (u) (nI 2)) rfl (Nat.zero_le _) (Nat.zero_le _) dX1_site_54 hQ9 rfl ⟨by rw [show jcS S _ _ = 2 by simp [jcS, h5, vx0, h13, h18, f18, h50]]; rfl, fun h => (by rw [show jcS S _ _ = 2 by simp [jcS, h5, vx0, h13, h18, f18, h50]] at h; cases h), fun h => (by rw [show jcS S _ _ = 2 by simp [jcS, h5, vx0, h13, h18, f18, h50]] at h; cases h), fun _ => hS9⟩
      · have f18 : jin a 4 = true := jin_le (k := 3) h13 (by rw [Int32.le_iff_toInt_le]; rw [Int32.lt_iff_toInt_lt] at h18; omega)
        obtain ⟨a0, ha0, rfl⟩ := jin_of f18 (by omega)
        have va0 := jv_nI (n := a0) (by omega)
        refine ja_aload_n K 0 dX1_site_21 rfl ?_
        refine ja_iload_n K 1 dX1_site_22 rfl ?_
        refine ja_callVI K (q0 := 0) (qc := (RX1, TX1, 16)) (st := [.ref (q 0)]) [.int (nI (x0))] (jd_isTaken l D q cI cZ S (u) hW9 hS9 (x0) (by omega)) (cwV 1 K.1.2.2.2.2 (gX1_X1_isTaken _) rfl rfl rfl (by decide +kernel) (by rw [hR9]; exact ⟨Nat.le_of_ble_eq_true rfl, Nat.le_of_ble_eq_true rfl⟩)) rfl rfl rfl rfl rfl (Nat.le_of_ble_eq_true rfl) dX1_site_23 (by rw [hR9]; exact ⟨Nat.le_of_ble_eq_true rfl, Nat.le_of_ble_eq_true rfl⟩) (fun r9 u9 h9 => ?_)
        obtain ⟨rfl, rfl⟩ := h9
        refine ja_if_eq K (tgt := 33) (jtaken S (x0) = false) dX1_site_26 (by decide) (jbI_ne _) (fun h26 => ?_) (fun h26 => ?_)
        · refine ja_aload_n K 0 dX1_site_33 rfl ?_
          refine ja_get K hu9 0 rfl rfl 5 (by decide) (List.mem_cons_of_mem _ kfX1_45) rfl (congrArg (fun z9 => some (Value.int z9)) rK) dX1_site_34 ?_
          refine ja_bipush K (nI 8) dX1_site_37 (by decide) ?_
          refine ja_icmp_ne K (tgt := 46) (¬ (jK S) = 8) dX1_site_39 (by decide) (not_congr (nI_eq (by omega) (by omega))) (fun h39 => ?_) (fun h39 => ?_)
          · refine ja_iconst K (nI 0) dX1_site_46 (by decide) ?_
            refine ja_callVI K (q0 := 0) (qc := (RX1, TX1, 16)) (st := []) [.int (nI 0)] (jd_refused l D q cI cZ (u) (0) (by omega)) (cwV 1 K.1.2.2.2.2 (gX1_X1_refused _) rfl rfl rfl (by decide +kernel) (by rw [hR9]; exact ⟨Nat.le_of_ble_eq_true rfl, Nat.le_of_ble_eq_true rfl⟩)) rfl rfl rfl rfl rfl (Nat.le_of_ble_eq_true rfl) dX1_site_47 (by rw [hR9]; exact ⟨Nat.le_of_ble_eq_true rfl, Nat.le_of_ble_eq_true rfl⟩) (fun r9 u9 h9 => ?_)
            obtain ⟨rfl, rfl⟩ := h9
            refine ja_if_eq K (tgt := 55) (decide (0 < 0) = false) dX1_site_50 (by decide) (jbI_ne _) (fun h50 => ?_) (fun h50 => ?_)
            · refine ja_aload_n K 0 dX1_site_55 rfl ?_
              refine ja_get K hu9 0 rfl rfl 6 (by decide) (List.mem_cons_of_mem _ kfX1_20) rfl rfl dX1_site_56 ?_
              refine ja_aload_n K 0 dX1_site_59 rfl ?_
              refine ja_get K hu9 0 rfl rfl 5 (by decide) (List.mem_cons_of_mem _ kfX1_45) rfl (congrArg (fun z9 => some (Value.int z9)) rK) dX1_site_60 ?_
              refine ja_iload_n K 1 dX1_site_63 rfl ?_
              refine ja_iast K (ws1 := jmc q cI cZ (jmsP (jmsF (u) (nI 0)) (upd (jmP (jmsF (u) (nI 0))) ((jK S)) (nI (x0))))) 4 0 rfl rfl ((jK S)) rfl (by omega) (by decide) dX1_site_64 rfl ?_
              refine ja_aload_n K 0 dX1_site_65 rfl ?_
              refine ja_get K hu9 0 rfl rfl 7 (by decide) (List.mem_cons_of_mem _ kfX1_23) rfl rfl dX1_site_66 ?_
              refine ja_aload_n K 0 dX1_site_69 rfl ?_
              refine ja_get K hu9 0 rfl rfl 5 (by decide) (List.mem_cons_of_mem _ kfX1_45) rfl (congrArg (fun z9 => some (Value.int z9)) rK) dX1_site_70 ?_
              refine ja_iload_n K 2 dX1_site_73 rfl ?_
              refine ja_iast K (ws1 := jmc q cI cZ (jmsA (jmsP (jmsF (u) (nI 0)) (upd (jmP (jmsF (u) (nI 0))) ((jK S)) (nI (x0)))) (upd (jmA (jmsP (jmsF (u) (nI 0)) (upd (jmP (jmsF (u) (nI 0))) ((jK S)) (nI (x0))))) ((jK S)) (nI (a0))))) 5 0 rfl rfl ((jK S)) rfl (by omega) (by decide) dX1_site_74 rfl ?_
              refine ja_aload_n K 0 dX1_site_75 rfl ?_
              refine ja_dup K dX1_site_76 rfl ?_
              refine ja_get K hu9 0 rfl rfl 5 (by decide) (List.mem_cons_of_mem _ kfX1_45) rfl (congrArg (fun z9 => some (Value.int z9)) rK) dX1_site_77 ?_
              refine ja_iconst K (nI 1) dX1_site_80 (by decide) ?_
              refine ja_iadd K (nI (((jK S) + 1))) dX1_site_81 (nI_add _ _) ?_
              refine ja_put K (ws1 := jmc q cI cZ (jmsK (jmsA (jmsP (jmsF (u) (nI 0)) (upd (jmP (jmsF (u) (nI 0))) ((jK S)) (nI (x0)))) (upd (jmA (jmsP (jmsF (u) (nI 0)) (upd (jmP (jmsF (u) (nI 0))) ((jK S)) (nI (x0))))) ((jK S)) (nI (a0)))) (nI (((jK S) + 1))))) hu9 0 rfl rfl 5 (by decide) (List.mem_cons_of_mem _ kfX1_45) rfl tyX1 tyX1_ok nmX1 rfl rfl rfl rfl (Nat.le_of_ble_eq_true rfl) dX1_site_82 rfl ?_
              refine ja_aload_n K 0 dX1_site_85 rfl ?_
              refine ja_get K hu9 0 rfl rfl 5 (by decide) (List.mem_cons_of_mem _ kfX1_45) rfl rfl dX1_site_86 ?_
              refine ja_iconst K (nI 1) dX1_site_89 (by decide) ?_
              refine ja_isub K (nI ((((jK S) + 1) - 1))) dX1_site_90 (pk_sub (by omega)) ?_
              exact ja_iret K (jmsK (jmsA (jmsP (jmsF (u) (nI 0)) (upd (jmP (jmsF (u) (nI 0))) ((jK S)) (nI (x0)))) (upd (jmA (jmsP (jmsF (u) (nI 0)) (upd (jmP (jmsF (u) (nI 0))) ((jK S)) (nI (x0))))) ((jK S)) (nI (a0)))) (nI (((jK S) + 1)))) rfl (Nat.zero_le _) (Nat.zero_le _) dX1_site_91 hQ9 rfl ⟨by rw [show jcS S _ _ = 0 by simp [jcS, h5, vx0, f18, va0, h26, h39, h50]]; rfl, fun _ => rfl, fun _ => jmR1_addS hS9 hx0 ha0 _, fun h => absurd (show jcS S _ _ = 0 by simp [jcS, h5, vx0, f18, va0, h26, h39, h50]) h⟩
            · exact absurd (by decide) h50
          · replace h39 := Classical.not_not.mp h39
            refine ja_iconst K (nI 3) dX1_site_42 (by decide) ?_
            refine ja_goto K (tgt := 47) dX1_site_43 (by decide) ?_
            refine ja_callVI K (q0 := 0) (qc := (RX1, TX1, 16)) (st := []) [.int (nI 3)] (jd_refused l D q cI cZ (u) (3) (by omega)) (cwV 1 K.1.2.2.2.2 (gX1_X1_refused _) rfl rfl rfl (by decide +kernel) (by rw [hR9]; exact ⟨Nat.le_of_ble_eq_true rfl, Nat.le_of_ble_eq_true rfl⟩)) rfl rfl rfl rfl rfl (Nat.le_of_ble_eq_true rfl) dX1_site_47 (by rw [hR9]; exact ⟨Nat.le_of_ble_eq_true rfl, Nat.le_of_ble_eq_true rfl⟩) (fun r9 u9 h9 => ?_)
            obtain ⟨rfl, rfl⟩ := h9
            refine ja_if_eq K (tgt := 55) (decide (0 < 3) = false) dX1_site_50 (by decide) (jbI_ne _) (fun h50 => ?_) (fun h50 => ?_)
            · exact absurd h50 (by decide)
            · refine ja_iconst K (nI 0) dX1_site_53 (by decide) ?_
              exact ja_iret K (jmsF (u) (nI 3)) rfl (Nat.zero_le _) (Nat.zero_le _) dX1_site_54 hQ9 rfl ⟨by rw [show jcS S _ _ = 3 by simp [jcS, h5, vx0, f18, va0, h26, h39, h50]]; rfl, fun h => (by rw [show jcS S _ _ = 3 by simp [jcS, h5, vx0, f18, va0, h26, h39, h50]] at h; cases h), fun h => (by rw [show jcS S _ _ = 3 by simp [jcS, h5, vx0, f18, va0, h26, h39, h50]] at h; cases h), fun _ => hS9⟩
        · refine ja_iconst K (nI 2) dX1_site_29 (by decide) ?_
          refine ja_goto K (tgt := 47) dX1_site_30 (by decide) ?_
          refine ja_callVI K (q0 := 0) (qc := (RX1, TX1, 16)) (st := []) [.int (nI 2)] (jd_refused l D q cI cZ (u) (2) (by omega)) (cwV 1 K.1.2.2.2.2 (gX1_X1_refused _) rfl rfl rfl (by decide +kernel) (by rw [hR9]; exact ⟨Nat.le_of_ble_eq_true rfl, Nat.le_of_ble_eq_true rfl⟩)) rfl rfl rfl rfl rfl (Nat.le_of_ble_eq_true rfl) dX1_site_47 (by rw [hR9]; exact ⟨Nat.le_of_ble_eq_true rfl, Nat.le_of_ble_eq_true rfl⟩) (fun r9 u9 h9 => ?_)
          obtain ⟨rfl, rfl⟩ := h9
          refine ja_if_eq K (tgt := 55) (decide (0 < 2) = false) dX1_site_50 (by decide) (jbI_ne _) (fun h50 => ?_) (fun h50 => ?_)
          · exact absurd h50 (by decide)
          · refine ja_iconst K (nI 0) dX1_site_53 (by decide) ?_
            exact ja_iret K (jmsF (u) (nI 2)) rfl (Nat.zero_le _) (Nat.zero_le _) dX1_site_54 hQ9 rfl ⟨by rw [show jcS S _ _ = 2 by simp [jcS, h5, vx0, f18, va0, h26, h50]]; rfl, fun h => (by rw [show jcS S _ _ = 2 by simp [jcS, h5, vx0, f18, va0, h26, h50]] at h; cases h), fun h => (by rw [show jcS S _ _ = 2 by simp [jcS, h5, vx0, f18, va0, h26, h50]] at h; cases h), fun _ => hS9⟩
  · refine ja_iconst K (nI 1) dX1_site_8 (by decide) ?_
    refine ja_goto K (tgt := 47) dX1_site_9 (by decide) ?_
    refine ja_callVI K (q0 := 0) (qc := (RX1, TX1, 16)) (st := []) [.int (nI 1)] (jd_refused l D q cI cZ (u) (1) (by omega)) (cwV 1 K.1.2.2.2.2 (gX1_X1_refused _) rfl rfl rfl (by decide +kernel) (by rw [hR9]; exact ⟨Nat.le_of_ble_eq_true rfl, Nat.le_of_ble_eq_true rfl⟩)) rfl rfl rfl rfl rfl (Nat.le_of_ble_eq_true rfl) dX1_site_47 (by rw [hR9]; exact ⟨Nat.le_of_ble_eq_true rfl, Nat.le_of_ble_eq_true rfl⟩) (fun r9 u9 h9 => ?_)
    obtain ⟨rfl, rfl⟩ := h9
    refine ja_if_eq K (tgt := 55) (decide (0 < 1) = false) dX1_site_50 (by decide) (jbI_ne _) (fun h50 => ?_) (fun h50 => ?_)
    · exact absurd h50 (by decide)
    · refine ja_iconst K (nI 0) dX1_site_53 (by decide) ?_
      exact ja_iret K (jmsF (u) (nI 1)) rfl (Nat.zero_le _) (Nat.zero_le _) dX1_site_54 hQ9 rfl ⟨by rw [show jcS S _ _ = 1 by simp [jcS, h5, h50]]; rfl, fun h => (by rw [show jcS S _ _ = 1 by simp [jcS, h5, h50]] at h; cases h), fun h => (by rw [show jcS S _ _ = 1 by simp [jcS, h5, h50]] at h; cases h), fun _ => hS9⟩
