set_option maxRecDepth 100000 in
set_option maxHeartbeats 4000000 in
theorem jd_holds (l : Launch) (D : va_G) (q : Nat → Nat) (cI cZ : ClassId) (S : JS) (u : JM) (hW9 : jWf S) (hS9 : jmR1 S u) (a b x : Nat) (ha : a < jN S) (hb : b < jN S) (hx : x < 60) : jkI l yX1_holds wsX1_holds ({ frames := 1, cells := 0, slots := 0, locals := 22 }) D vwCl (jxt cI cZ) (jmc q cI cZ) [.ref (q 0), .int (nI a), .int (nI b), .int (nI x)] (jmc q cI cZ u) (fun r u1 => jbI (jhold (jU S x) a b) = r ∧ u = u1) := by
  refine jkI_of (cc := cX1_holds) (maxL := 5) (ret := (some .boolean)) (by decide) rfl (Nat.le_of_ble_eq_true rfl) ?_
  intro p e R s m args below meth c Q A K hn9 hR9 hQ9
  obtain ⟨rN, rT, rM, rU, rK, rP, rA, rL, rB⟩ := id hS9
  obtain ⟨wn, wt, wu, wk, wp, wl, wb⟩ := id hW9
  have hu9 : ∀ w ∈ u_ws RX1 TX1 16, w ∈ wsX1_holds := fun w h => List.mem_cons_of_mem _ (ku_X1 w h)
  show jaW p l e R s m args below meth c 0 0 Q D vwCl A 5 (jmc q cI cZ u) [(0, .ref (q 0)), (1, .int (nI (a))), (2, .int (nI (b))), (3, .int (nI (x)))] 0 []
  refine ja_iload_n K 2 dX1_holds_0 rfl ?_
  refine ja_istore K (lv1 := [(0, .ref (q 0)), (1, .int (nI (a))), (2, .int (nI (b))), (3, .int (nI (x))), (4, .int (nI (b)))]) dX1_holds_1 (by decide) rfl rfl ?_
  have L3 : ∀ (o : Option Nat), ((∀ y, o = some y → y < jN S) ∧ (jpF (jU S x) (fun y => y == a) 14 o).isSome = jhold (jU S x) a b) → jaW p l e R s m args below meth c 0 0 Q D vwCl A 5 (jmc q cI cZ u) [(0, .ref (q 0)), (1, .int (nI (a))), (2, .int (nI (b))), (3, .int (nI (x))), (4, .int (jeI (o)))] 3 [] := by
    refine jl_1 (fun (o : Option Nat) => jho (jN S) (jT S) o) (fun (o : Option Nat) => (∀ y, o = some y → y < jN S) ∧ (jpF (jU S x) (fun y => y == a) 14 o).isSome = jhold (jU S x) a b) _ ?_
    intro o hI3 IH3
    refine ja_iload K 4 dX1_holds_3 rfl ?_
    refine ja_if_lt K (tgt := 26) (o = none) dX1_holds_5 (by decide) (jeI_lt0 (fun p9 h9 => by have := hI3.1 p9 h9; omega)) (fun h5 => ?_) (fun h5 => ?_)
    · subst h5
      refine ja_iload K 4 dX1_holds_26 rfl ?_
      refine ja_iload_n K 1 dX1_holds_28 rfl ?_
      refine ja_icmp_ne K (tgt := 36) (¬ -1 = nI (a)) dX1_holds_29 (by decide) Iff.rfl (fun h29 => ?_) (fun h29 => ?_)
      · refine ja_iconst K (nI 0) dX1_holds_36 (by decide) ?_
        exact ja_zret K (u) rfl (by first | exact ja_nz1 | exact ja_nz0 | exact jbI_narrow _) (Nat.zero_le _) (Nat.zero_le _) dX1_holds_37 hQ9 rfl ⟨by rw [← hI3.2]; first | exact jb0 (by simp [jpF_none]) | exact jb1 (by rw [jpF_S hW9]; simp [h11]) , rfl⟩
      · replace h29 := Classical.not_not.mp h29
        exact absurd h29.symm (jnI_ne (by omega))
    · obtain ⟨y5, rfl⟩ := Option.ne_none_iff_exists'.mp h5
      have by5 := hI3.1 y5 rfl
      refine ja_iload K 4 dX1_holds_8 rfl ?_
      refine ja_iload_n K 1 dX1_holds_10 rfl ?_
      refine ja_icmp_eq K (tgt := 26) (y5 = a) dX1_holds_11 (by decide) (nI_eq (by omega) (by omega)) (fun h11 => ?_) (fun h11 => ?_)
      · refine ja_iload K 4 dX1_holds_26 rfl ?_
        refine ja_iload_n K 1 dX1_holds_28 rfl ?_
        refine ja_icmp_ne K (tgt := 36) (¬ y5 = a) dX1_holds_29 (by decide) (not_congr (nI_eq (by omega) (by omega))) (fun h29 => ?_) (fun h29 => ?_)
        · exact absurd h11 h29
        · replace h29 := Classical.not_not.mp h29
          refine ja_iconst K (nI 1) dX1_holds_32 (by decide) ?_
          refine ja_goto K (tgt := 37) dX1_holds_33 (by decide) ?_
          exact ja_zret K (u) rfl (by first | exact ja_nz1 | exact ja_nz0 | exact jbI_narrow _) (Nat.zero_le _) (Nat.zero_le _) dX1_holds_37 hQ9 rfl ⟨by rw [← hI3.2]; first | exact jb0 (by simp [jpF_none]) | exact jb1 (by rw [jpF_S hW9]; simp [h11]) , rfl⟩
      · refine ja_aload_n K 0 dX1_holds_14 rfl ?_
        refine ja_iload K 4 dX1_holds_15 rfl ?_
        refine ja_iload_n K 3 dX1_holds_17 rfl ?_
        refine ja_callVI K (q0 := 0) (qc := (RX1, TX1, 16)) (st := []) [.int (nI (y5)), .int (nI (x))] (jd_up l D q cI cZ (u) (y5) (x) (by omega) (by omega) (jU S (x) (y5)) (rU (x) (y5) (by omega) (by omega))) (cwV 2 K.1.2.2.2.2 (gX1_X1_up _) rfl rfl rfl (by decide +kernel) (by rw [hR9]; exact ⟨Nat.le_of_ble_eq_true rfl, Nat.le_of_ble_eq_true rfl⟩)) rfl rfl rfl rfl rfl (Nat.le_of_ble_eq_true rfl) dX1_holds_18 (by rw [hR9]; exact ⟨Nat.le_of_ble_eq_true rfl, Nat.le_of_ble_eq_true rfl⟩) (fun r9 u9 h9 => ?_)
        obtain ⟨rfl, rfl⟩ := h9
        refine ja_istore K (lv1 := [(0, .ref (q 0)), (1, .int (nI (a))), (2, .int (nI (b))), (3, .int (nI (x))), (4, .int (jeI (jU S (x) (y5))))]) dX1_holds_21 (by decide) rfl rfl ?_
        refine ja_goto K (tgt := 3) dX1_holds_23 (by decide) ?_
        have k9 := IH3 (jU S x y5) ⟨fun z hz => (wu _ _ z hz).2.1, by rw [← hI3.2, jpF_S hW9]; simp [h11]⟩ (jho_up hW9 x y5)
        exact k9
  exact L3 (some b) ⟨fun y h => (by cases h; exact hb), rfl⟩
