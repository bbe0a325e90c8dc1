set_option maxRecDepth 100000 in
set_option maxHeartbeats 4000000 in
theorem jd_meet (l : Launch) (D : va_G) (q : Nat → Nat) (cI cZ : ClassId) (S : JS) (u : JM) (hW9 : jWf S) (hS9 : jmR1 S u) (x9 a9 b9 : Int32) : jkI l yX1_meet wsX1_meet ({ frames := 2, cells := 0, slots := 0, locals := 46 }) D vwCl (jxt cI cZ) (jmc q cI cZ) [.ref (q 0), .int x9, .int a9, .int b9] (jmc q cI cZ u) (fun r u1 => jmF u1 = nI (jc1 (jin x9 60 && jin a9 (jN S) && jin b9 (jN S))) ∧ ((jin x9 60 && jin a9 (jN S) && jin b9 (jN S)) = true → jeI (jmeet (jU S (jv x9)) (jv a9) (jv b9)) = r) ∧ jmR1 S u1) := by
  refine jkI_of (cc := cX1_meet) (maxL := 5) (ret := (some .int)) (by decide) rfl (Nat.le_of_ble_eq_true rfl) ?_
  intro p e R s m args below meth c Q A K hn9 hR9 hQ9
  obtain ⟨rN, rT, rM, rU, rK, rP, rA, rL, rB⟩ := id hS9
  obtain ⟨wn, wt, wu, wk, wp, wl, wb⟩ := id hW9
  have hu9 : ∀ w ∈ u_ws RX1 TX1 16, w ∈ wsX1_meet := fun w h => List.mem_cons_of_mem _ (ku_X1 w h)
  show jaW p l e R s m args below meth c 0 0 Q D vwCl A 5 (jmc q cI cZ u) [(0, .ref (q 0)), (1, .int (x9)), (2, .int (a9)), (3, .int (b9))] 0 []
  refine ja_aload_n K 0 dX1_meet_0 rfl ?_
  refine ja_iload_n K 1 dX1_meet_1 rfl ?_
  refine ja_callSI K (st := [.ref (q 0)]) [.int (x9)] (jd_isPlace l D q cI cZ (u) (x9)) (va_cwS 1 K.1.2.2.2.2 (gX1_X1_isPlace _) rfl rfl rfl (by decide +kernel) (by rw [hR9]; exact ⟨Nat.le_of_ble_eq_true rfl, Nat.le_of_ble_eq_true rfl⟩)) rfl rfl rfl (Nat.le_of_ble_eq_true rfl) dX1_meet_2 (by rw [hR9]; exact ⟨Nat.le_of_ble_eq_true rfl, Nat.le_of_ble_eq_true rfl⟩) (fun r9 u9 h9 => ?_)
  obtain ⟨rfl, rfl⟩ := h9
  refine ja_if_eq K (tgt := 28) (jin (x9) 60 = false) dX1_meet_5 (by decide) (jbI_ne _) (fun h5 => ?_) (fun h5 => ?_)
  · refine ja_iconst K (nI 1) dX1_meet_28 (by decide) ?_
    refine ja_callVI K (q0 := 0) (qc := (RX1, TX1, 16)) (st := []) [.int (nI 1)] (jd_refused l D q cI cZ (u) (1) (by omega)) (cwV 1 K.1.2.2.2.2 (gX1_X1_refused _) rfl rfl rfl (by decide +kernel) (by rw [hR9]; exact ⟨Nat.le_of_ble_eq_true rfl, Nat.le_of_ble_eq_true rfl⟩)) rfl rfl rfl rfl rfl (Nat.le_of_ble_eq_true rfl) dX1_meet_29 (by rw [hR9]; exact ⟨Nat.le_of_ble_eq_true rfl, Nat.le_of_ble_eq_true rfl⟩) (fun r9 u9 h9 => ?_)
    obtain ⟨rfl, rfl⟩ := h9
    refine ja_if_eq K (tgt := 37) (decide (0 < 1) = false) dX1_meet_32 (by decide) (jbI_ne _) (fun h32 => ?_) (fun h32 => ?_)
    · exact absurd h32 (by decide)
    · refine ja_iconst K (nI 0) dX1_meet_35 (by decide) ?_
      exact ja_iret K (jmsF (u) (nI 1)) rfl (Nat.zero_le _) (Nat.zero_le _) dX1_meet_36 hQ9 rfl ⟨by rw [h5]; rfl, fun h => (by rw [h5] at h; cases h), hS9⟩
  · refine ja_aload_n K 0 dX1_meet_8 rfl ?_
    refine ja_iload_n K 2 dX1_meet_9 rfl ?_
    refine ja_callVI K (q0 := 0) (qc := (RX1, TX1, 16)) (st := [.ref (q 0)]) [.int (a9)] (jd_isNode l D q cI cZ S (u) hW9 hS9 (a9)) (cwV 1 K.1.2.2.2.2 (gX1_X1_isNode _) rfl rfl rfl (by decide +kernel) (by rw [hR9]; exact ⟨Nat.le_of_ble_eq_true rfl, Nat.le_of_ble_eq_true rfl⟩)) rfl rfl rfl rfl rfl (Nat.le_of_ble_eq_true rfl) dX1_meet_10 (by rw [hR9]; exact ⟨Nat.le_of_ble_eq_true rfl, Nat.le_of_ble_eq_true rfl⟩) (fun r9 u9 h9 => ?_)
    obtain ⟨rfl, rfl⟩ := h9
    refine ja_if_eq K (tgt := 28) (jin (a9) (jN S) = false) dX1_meet_13 (by decide) (jbI_ne _) (fun h13 => ?_) (fun h13 => ?_)
    · refine ja_iconst K (nI 1) dX1_meet_28 (by decide) ?_
      refine ja_callVI K (q0 := 0) (qc := (RX1, TX1, 16)) (st := []) [.int (nI 1)] (jd_refused l D q cI cZ (u) (1) (by omega)) (cwV 1 K.1.2.2.2.2 (gX1_X1_refused _) rfl rfl rfl (by decide +kernel) (by rw [hR9]; exact ⟨Nat.le_of_ble_eq_true rfl, Nat.le_of_ble_eq_true rfl⟩)) rfl rfl rfl rfl rfl (Nat.le_of_ble_eq_true rfl) dX1_meet_29 (by rw [hR9]; exact ⟨Nat.le_of_ble_eq_true rfl, Nat.le_of_ble_eq_true rfl⟩) (fun r9 u9 h9 => ?_)
      obtain ⟨rfl, rfl⟩ := h9
      refine ja_if_eq K (tgt := 37) (decide (0 < 1) = false) dX1_meet_32 (by decide) (jbI_ne _) (fun h32 => ?_) (fun h32 => ?_)
      · exact absurd h32 (by decide)
      · refine ja_iconst K (nI 0) dX1_meet_35 (by decide) ?_
        exact ja_iret K (jmsF (u) (nI 1)) rfl (Nat.zero_le _) (Nat.zero_le _) dX1_meet_36 hQ9 rfl ⟨by rw [h13, Bool.and_false]; rfl, fun h => (by rw [h13, Bool.and_false] at h; cases h), hS9⟩
    · refine ja_aload_n K 0 dX1_meet_16 rfl ?_
      refine ja_iload_n K 3 dX1_meet_17 rfl ?_
      refine ja_callVI K (q0 := 0) (qc := (RX1, TX1, 16)) (st := [.ref (q 0)]) [.int (b9)] (jd_isNode l D q cI cZ S (u) hW9 hS9 (b9)) (cwV 1 K.1.2.2.2.2 (gX1_X1_isNode _) rfl rfl rfl (by decide +kernel) (by rw [hR9]; exact ⟨Nat.le_of_ble_eq_true rfl, Nat.le_of_ble_eq_true rfl⟩)) rfl rfl rfl rfl rfl (Nat.le_of_ble_eq_true rfl) dX1_meet_18 (by rw [hR9]; exact ⟨Nat.le_of_ble_eq_true rfl, Nat.le_of_ble_eq_true rfl⟩) (fun r9 u9 h9 => ?_)
      obtain ⟨rfl, rfl⟩ := h9
      refine ja_if_eq K (tgt := 28) (jin (b9) (jN S) = false) dX1_meet_21 (by decide) (jbI_ne _) (fun h21 => ?_) (fun h21 => ?_)
      · refine ja_iconst K (nI 1) dX1_meet_28 (by decide) ?_
        refine ja_callVI K (q0 := 0) (qc := (RX1, TX1, 16)) (st := []) [.int (nI 1)] (jd_refused l D q cI cZ (u) (1) (by omega)) (cwV 1 K.1.2.2.2.2 (gX1_X1_refused _) rfl rfl rfl (by decide +kernel) (by rw [hR9]; exact ⟨Nat.le_of_ble_eq_true rfl, Nat.le_of_ble_eq_true rfl⟩)) rfl rfl rfl rfl rfl (Nat.le_of_ble_eq_true rfl) dX1_meet_29 (by rw [hR9]; exact ⟨Nat.le_of_ble_eq_true rfl, Nat.le_of_ble_eq_true rfl⟩) (fun r9 u9 h9 => ?_)
        obtain ⟨rfl, rfl⟩ := h9
        refine ja_if_eq K (tgt := 37) (decide (0 < 1) = false) dX1_meet_32 (by decide) (jbI_ne _) (fun h32 => ?_) (fun h32 => ?_)
        · exact absurd h32 (by decide)
        · refine ja_iconst K (nI 0) dX1_meet_35 (by decide) ?_
          exact ja_iret K (jmsF (u) (nI 1)) rfl (Nat.zero_le _) (Nat.zero_le _) dX1_meet_36 hQ9 rfl ⟨by rw [h21, Bool.and_false]; rfl, fun h => (by rw [h21, Bool.and_false] at h; cases h), hS9⟩
      · obtain ⟨x0, hx0, rfl⟩ := jin_of (n := 60) (by simpa using h5) (by omega)
        have vx0 := jv_nI (n := x0) (by omega)
        obtain ⟨a0, ha0, rfl⟩ := jin_of (n := jN S) (by simpa using h13) (by omega)
        have va0 := jv_nI (n := a0) (by omega)
        obtain ⟨b0, hb0, rfl⟩ := jin_of (n := jN S) (by simpa using h21) (by omega)
        have vb0 := jv_nI (n := b0) (by omega)
        refine ja_iconst K (nI 0) dX1_meet_24 (by decide) ?_
        refine ja_goto K (tgt := 29) dX1_meet_25 (by decide) ?_
        refine ja_callVI K (q0 := 0) (qc := (RX1, TX1, 16)) (st := []) [.int (nI 0)] (jd_refused l D q cI cZ (u) (0) (by omega)) (cwV 1 K.1.2.2.2.2 (gX1_X1_refused _) rfl rfl rfl (by decide +kernel) (by rw [hR9]; exact ⟨Nat.le_of_ble_eq_true rfl, Nat.le_of_ble_eq_true rfl⟩)) rfl rfl rfl rfl rfl (Nat.le_of_ble_eq_true rfl) dX1_meet_29 (by rw [hR9]; exact ⟨Nat.le_of_ble_eq_true rfl, Nat.le_of_ble_eq_true rfl⟩) (fun r9 u9 h9 => ?_)
        obtain ⟨rfl, rfl⟩ := h9
        refine ja_if_eq K (tgt := 37) (decide (0 < 0) = false) dX1_meet_32 (by decide) (jbI_ne _) (fun h32 => ?_) (fun h32 => ?_)
        · refine ja_iload_n K 2 dX1_meet_37 rfl ?_
          refine ja_istore K (lv1 := [(0, .ref (q 0)), (1, .int (nI (x0))), (2, .int (nI (a0))), (3, .int (nI (b0))), (4, .int (nI (a0)))]) dX1_meet_38 (by decide) rfl rfl ?_
          have L40 : ∀ (o : Option Nat), ((∀ y, o = some y → y < jN S) ∧ jpF (jU S x0) (fun y => jhold (jU S x0) y b0) 14 o = jmeet (jU S x0) a0 b0) → jaW p l e R s m args below meth c 0 0 Q D vwCl A 5 (jmc q cI cZ (jmsF (u) (nI 0))) [(0, .ref (q 0)), (1, .int (nI (x0))), (2, .int (nI (a0))), (3, .int (nI (b0))), (4, .int (jeI (o)))] 40 [] := by
            refine jl_1 (fun (o : Option Nat) => jho (jN S) (jT S) o) (fun (o : Option Nat) => (∀ y, o = some y → y < jN S) ∧ jpF (jU S x0) (fun y => jhold (jU S x0) y b0) 14 o = jmeet (jU S x0) a0 b0) _ ?_
            intro o hI40 IH40
            refine ja_iload K 4 dX1_meet_40 rfl ?_
            refine ja_if_lt K (tgt := 68) (o = none) dX1_meet_42 (by decide) (jeI_lt0 (fun p9 h9 => by have := hI40.1 p9 h9; omega)) (fun h42 => ?_) (fun h42 => ?_)
            · subst h42
              refine ja_iload K 4 dX1_meet_68 rfl ?_
              exact ja_iret K (jmsF (u) (nI 0)) rfl (Nat.zero_le _) (Nat.zero_le _) dX1_meet_70 hQ9 rfl ⟨by rw [eq_true_of_ne_false h5, eq_true_of_ne_false h13, eq_true_of_ne_false h21]; rfl, fun _ => by rw [vx0, va0, vb0, ← hI40.2]; first | (rw [jpF_none]; done) | (rw [jpF_S hW9, if_pos h53]; done), hS9⟩
            · obtain ⟨y42, rfl⟩ := Option.ne_none_iff_exists'.mp h42
              have by42 := hI40.1 y42 rfl
              refine ja_aload_n K 0 dX1_meet_45 rfl ?_
              refine ja_iload K 4 dX1_meet_46 rfl ?_
              refine ja_iload_n K 3 dX1_meet_48 rfl ?_
              refine ja_iload_n K 1 dX1_meet_49 rfl ?_
              refine ja_callVI K (q0 := 0) (qc := (RX1, TX1, 16)) (st := []) [.int (nI (y42)), .int (nI (b0)), .int (nI (x0))] (jd_holds l D q cI cZ S (jmsF (u) (nI 0)) hW9 hS9 (y42) (b0) (x0) (by omega) (by omega) (by omega)) (cwV 3 K.1.2.2.2.2 (gX1_X1_holds _) rfl rfl rfl (by decide +kernel) (by rw [hR9]; exact ⟨Nat.le_of_ble_eq_true rfl, Nat.le_of_ble_eq_true rfl⟩)) rfl rfl rfl rfl rfl (Nat.le_of_ble_eq_true rfl) dX1_meet_50 (by rw [hR9]; exact ⟨Nat.le_of_ble_eq_true rfl, Nat.le_of_ble_eq_true rfl⟩) (fun r9 u9 h9 => ?_)
              obtain ⟨rfl, rfl⟩ := h9
              refine ja_if_ne K (tgt := 68) (jhold (jU S (x0)) (y42) (b0) = true) dX1_meet_53 (by decide) (jbI_nz _) (fun h53 => ?_) (fun h53 => ?_)
              · refine ja_iload K 4 dX1_meet_68 rfl ?_
                exact ja_iret K (jmsF (u) (nI 0)) rfl (Nat.zero_le _) (Nat.zero_le _) dX1_meet_70 hQ9 rfl ⟨by rw [eq_true_of_ne_false h5, eq_true_of_ne_false h13, eq_true_of_ne_false h21]; rfl, fun _ => by rw [vx0, va0, vb0, ← hI40.2]; first | (rw [jpF_none]; done) | (rw [jpF_S hW9, if_pos h53]; done), hS9⟩
              · refine ja_aload_n K 0 dX1_meet_56 rfl ?_
                refine ja_iload K 4 dX1_meet_57 rfl ?_
                refine ja_iload_n K 1 dX1_meet_59 rfl ?_
                refine ja_callVI K (q0 := 0) (qc := (RX1, TX1, 16)) (st := []) [.int (nI (y42)), .int (nI (x0))] (jd_up l D q cI cZ (jmsF (u) (nI 0)) (y42) (x0) (by omega) (by omega) (jU S (x0) (y42)) (rU (x0) (y42) (by omega) (by omega))) (cwV 2 K.1.2.2.2.2 (gX1_X1_up _) rfl rfl rfl (by decide +kernel) (by rw [hR9]; exact ⟨Nat.le_of_ble_eq_true rfl, Nat.le_of_ble_eq_true rfl⟩)) rfl rfl rfl rfl rfl (Nat.le_of_ble_eq_true rfl) dX1_meet_60 (by rw [hR9]; exact ⟨Nat.le_of_ble_eq_true rfl, Nat.le_of_ble_eq_true rfl⟩) (fun r9 u9 h9 => ?_)
                obtain ⟨rfl, rfl⟩ := h9
                refine ja_istore K (lv1 := [(0, .ref (q 0)), (1, .int (nI (x0))), (2, .int (nI (a0))), (3, .int (nI (b0))), (4, .int (jeI (jU S (x0) (y42))))]) dX1_meet_63 (by decide) rfl rfl ?_
                refine ja_goto K (tgt := 40) dX1_meet_65 (by decide) ?_
                have k9 := IH40 (jU S x0 y42) ⟨fun z hz => (wu _ _ z hz).2.1, by rw [← hI40.2, jpF_S hW9]; simp [h53]⟩ (jho_up hW9 x0 y42)
                exact k9
          exact L40 (some a0) ⟨fun y h => (by cases h; exact ha0), rfl⟩
        · exact absurd (by decide) h32
