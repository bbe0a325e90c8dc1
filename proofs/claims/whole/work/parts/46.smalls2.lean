set_option maxRecDepth 100000 in
set_option maxHeartbeats 600000 in
theorem je_join (l : Launch) (hst9 : l.stackTraces = false) (D : va_G) (q : Nat → Nat) (cI cZ cL : ClassId) (S : JS) (u : JX) (g : Nat → Int64) (hW9 : jWf S) (hS9 : jxR1 S u) (a b p9 c9 : Int32) : jkL l yL_join wsL_join ({ frames := 7, cells := 1, slots := 6, locals := 130 }) D vwCl (jLt cI cZ cL) (jlc q cI cZ cL) [.ref (q 0), .int a, .int b, .int p9, .int c9, .ref (q 12)] (jlc q cI cZ cL (u, g)) (jlp [(1, jEO), (2, jEA), (3, jES)] (fun r u1 => jcJ S a b p9 c9 = 0 ∧ nI (jaU S (jv a) (jv b) (jv c9) (some (jv p9))) = r ∧ jxR1 (jsetU S (jv a) (jv b) (jv c9) (some (jv p9))) u1) (fun E u1 => u = u1 ∧ ((E = jEO ∧ jcJ S a b p9 c9 = 1) ∨ (E = jEA ∧ jcJ S a b p9 c9 = 2) ∨ (E = jES ∧ jcJ S a b p9 c9 = 3)))) := by
  refine jkL_of (cc := cL_join) (maxL := 7) (ret := (some .int)) (by decide) rfl (Nat.le_of_ble_eq_true rfl) ?_
  intro p e R s m args below meth c Q A K hR9 hTb hZ hQ9
  show jaW p l e R s m args below meth c 0 0 Q D vwCl A 7 (jlc q cI cZ cL (u, g)) [(0, .ref (q 0)), (1, .int a), (2, .int b), (3, .int p9), (4, .int c9), (5, .ref (q 12))] 0 []
  refine ja_aload K 5 dL_join_0 rfl ?_
  refine ja_iconst K (nI 0) dL_join_2 (by decide) ?_
  refine ja_aload_n K 0 dL_join_3 rfl ?_
  refine ja_iload_n K 1 dL_join_4 rfl ?_
  refine ja_iload_n K 2 dL_join_5 rfl ?_
  refine ja_iload_n K 3 dL_join_6 rfl ?_
  refine ja_iload K 4 dL_join_7 rfl ?_
  refine ja_fcallVX K (wr := [(q 12, .inl (cL, 1, .inr (.inl g)))]) [1, 2, 3, 4, 5, 6, 7, 8, 9, 10, 11, 12] [0] [0, 1] rfl rfl rfl rfl rfl (by decide) rfl (q0 := 0) (qc := (RX0, TX0, 13)) (st := [.int (nI 0), .ref (q 12)]) [.int a, .int b, .int p9, .int c9] (jc_join l hst9 D q cI cZ S u hW9 hS9 a b p9 c9) (cwV 4 K.1.2.2.2.2 (gL_X0_join _) rfl rfl rfl (by decide +kernel) (by rw [hR9]; exact ⟨Nat.le_of_ble_eq_true rfl, Nat.le_of_ble_eq_true rfl⟩)) rfl rfl rfl rfl rfl (Nat.le_of_ble_eq_true rfl) dL_join_9 (by rw [hR9]; exact ⟨Nat.le_of_ble_eq_true rfl, Nat.le_of_ble_eq_true rfl⟩) hZ.1 hTb (fun E u1 hx => ?_) (fun r u1 hp => ?_)
  · have hx1 := hx
    obtain ⟨-, h1 | h1 | h1⟩ := hx1
    · have hE := h1.1
      subst hE
      refine ⟨[], [(0, 14, 21, 13), (0, 14, 25, 15)], (0, 14, 17, 21), jEO, rfl, (fun _ h => absurd h List.not_mem_nil), by decide, by decide, List.mem_cons_of_mem _ kcL_21, jcaO, fun q9 => ?_⟩
      refine ja_astore K (lv1 := [(0, .ref (q 0)), (1, .int a), (2, .int b), (3, .int p9), (4, .int c9), (5, .ref (q 12)), (6, .ref q9)]) dL_join_17 (by decide) rfl rfl ?_
      refine ja_iconst K (nI 1) dL_join_19 (by decide) ?_
      exact ja_iret K (u1, g) rfl (Nat.le_of_ble_eq_true rfl) (Nat.le_of_ble_eq_true rfl) dL_join_20 hQ9 rfl (Or.inr ⟨1, _, by simp, rfl, hx⟩)
    · have hE := h1.1
      subst hE
      refine ⟨[(0, 14, 17, 21)], [(0, 14, 25, 15)], (0, 14, 21, 13), jEA, rfl, (List.forall_mem_cons.mpr ⟨⟨by decide, _, List.mem_cons_of_mem _ kcL_21, hZ.2.2.1⟩, (fun _ h => absurd h List.not_mem_nil)⟩), by decide, by decide, List.mem_cons_of_mem _ kcL_13, jcaA, fun q9 => ?_⟩
      refine ja_astore K (lv1 := [(0, .ref (q 0)), (1, .int a), (2, .int b), (3, .int p9), (4, .int c9), (5, .ref (q 12)), (6, .ref q9)]) dL_join_21 (by decide) rfl rfl ?_
      refine ja_iconst K (nI 2) dL_join_23 (by decide) ?_
      exact ja_iret K (u1, g) rfl (Nat.le_of_ble_eq_true rfl) (Nat.le_of_ble_eq_true rfl) dL_join_24 hQ9 rfl (Or.inr ⟨2, _, by simp, rfl, hx⟩)
    · have hE := h1.1
      subst hE
      refine ⟨[(0, 14, 17, 21), (0, 14, 21, 13)], [], (0, 14, 25, 15), jES, rfl, (List.forall_mem_cons.mpr ⟨⟨by decide, _, List.mem_cons_of_mem _ kcL_21, hZ.2.2.2⟩, (List.forall_mem_cons.mpr ⟨⟨by decide, _, List.mem_cons_of_mem _ kcL_13, hZ.2.1⟩, (fun _ h => absurd h List.not_mem_nil)⟩)⟩), by decide, by decide, List.mem_cons_of_mem _ kcL_15, jcaS, fun q9 => ?_⟩
      refine ja_astore K (lv1 := [(0, .ref (q 0)), (1, .int a), (2, .int b), (3, .int p9), (4, .int c9), (5, .ref (q 12)), (6, .ref q9)]) dL_join_25 (by decide) rfl rfl ?_
      refine ja_iconst K (nI 3) dL_join_27 (by decide) ?_
      exact ja_iret K (u1, g) rfl (Nat.le_of_ble_eq_true rfl) (Nat.le_of_ble_eq_true rfl) dL_join_28 hQ9 rfl (Or.inr ⟨3, _, by simp, rfl, hx⟩)
  · refine ja_i2l K (r.toInt64) dL_join_12 rfl ?_
    refine ja_last K (ws1 := jlc q cI cZ cL (u1, vp_updL g 0 r.toInt64)) 0 2 rfl rfl 0 rfl (by decide) (by decide) dL_join_13 rfl ?_
    refine ja_goto K (tgt := 29) dL_join_14 (by decide) ?_
    refine ja_iconst K (nI 0) dL_join_29 (by decide) ?_
    exact ja_iret K (u1, vp_updL g 0 r.toInt64) rfl (Nat.le_of_ble_eq_true rfl) (Nat.le_of_ble_eq_true rfl) dL_join_30 hQ9 rfl (Or.inl ⟨rfl, r, by simp [vp_updL], hp⟩)
set_option maxRecDepth 100000 in
set_option maxHeartbeats 600000 in
theorem je_part (l : Launch) (hst9 : l.stackTraces = false) (D : va_G) (q : Nat → Nat) (cI cZ cL : ClassId) (S : JS) (u : JX) (g : Nat → Int64) (hW9 : jWf S) (hS9 : jxR1 S u) (a b c9 : Int32) : jkL l yL_part wsL_part ({ frames := 7, cells := 1, slots := 6, locals := 130 }) D vwCl (jLt cI cZ cL) (jlc q cI cZ cL) [.ref (q 0), .int a, .int b, .int c9, .ref (q 12)] (jlc q cI cZ cL (u, g)) (jlp [(1, jEO)] (fun r u1 => jcP S a b c9 = 0 ∧ nI (jaU S (jv a) (jv b) (jv c9) none) = r ∧ jxR1 (jsetU S (jv a) (jv b) (jv c9) none) u1) (fun E u1 => u = u1 ∧ ((E = jEO ∧ jcP S a b c9 = 1)))) := by
  refine jkL_of (cc := cL_part) (maxL := 6) (ret := (some .int)) (by decide) rfl (Nat.le_of_ble_eq_true rfl) ?_
  intro p e R s m args below meth c Q A K hR9 hTb hZ hQ9
  show jaW p l e R s m args below meth c 0 0 Q D vwCl A 6 (jlc q cI cZ cL (u, g)) [(0, .ref (q 0)), (1, .int a), (2, .int b), (3, .int c9), (4, .ref (q 12))] 0 []
  refine ja_aload K 4 dL_part_0 rfl ?_
  refine ja_iconst K (nI 0) dL_part_2 (by decide) ?_
  refine ja_aload_n K 0 dL_part_3 rfl ?_
  refine ja_iload_n K 1 dL_part_4 rfl ?_
  refine ja_iload_n K 2 dL_part_5 rfl ?_
  refine ja_iload_n K 3 dL_part_6 rfl ?_
  refine ja_fcallVX K (wr := [(q 12, .inl (cL, 1, .inr (.inl g)))]) [1, 2, 3, 4, 5, 6, 7, 8, 9, 10, 11, 12] [0] [0, 1] rfl rfl rfl rfl rfl (by decide) rfl (q0 := 0) (qc := (RX0, TX0, 13)) (st := [.int (nI 0), .ref (q 12)]) [.int a, .int b, .int c9] (jc_part l hst9 D q cI cZ S u hW9 hS9 a b c9) (cwV 3 K.1.2.2.2.2 (gL_X0_part _) rfl rfl rfl (by decide +kernel) (by rw [hR9]; exact ⟨Nat.le_of_ble_eq_true rfl, Nat.le_of_ble_eq_true rfl⟩)) rfl rfl rfl rfl rfl (Nat.le_of_ble_eq_true rfl) dL_part_7 (by rw [hR9]; exact ⟨Nat.le_of_ble_eq_true rfl, Nat.le_of_ble_eq_true rfl⟩) hZ.1 hTb (fun E u1 hx => ?_) (fun r u1 hp => ?_)
  · have hx1 := hx
    obtain ⟨-, h1⟩ := hx1
    have hE := h1.1
    subst hE
    refine ⟨[], [], (0, 12, 15, 21), jEO, rfl, (fun _ h => absurd h List.not_mem_nil), by decide, by decide, List.mem_cons_of_mem _ kcL_21, jcaO, fun q9 => ?_⟩
    refine ja_astore K (lv1 := [(0, .ref (q 0)), (1, .int a), (2, .int b), (3, .int c9), (4, .ref (q 12)), (5, .ref q9)]) dL_part_15 (by decide) rfl rfl ?_
    refine ja_iconst K (nI 1) dL_part_17 (by decide) ?_
    exact ja_iret K (u1, g) rfl (Nat.le_of_ble_eq_true rfl) (Nat.le_of_ble_eq_true rfl) dL_part_18 hQ9 rfl (Or.inr ⟨1, _, by simp, rfl, hx⟩)
  · refine ja_i2l K (r.toInt64) dL_part_10 rfl ?_
    refine ja_last K (ws1 := jlc q cI cZ cL (u1, vp_updL g 0 r.toInt64)) 0 2 rfl rfl 0 rfl (by decide) (by decide) dL_part_11 rfl ?_
    refine ja_goto K (tgt := 19) dL_part_12 (by decide) ?_
    refine ja_iconst K (nI 0) dL_part_19 (by decide) ?_
    exact ja_iret K (u1, vp_updL g 0 r.toInt64) rfl (Nat.le_of_ble_eq_true rfl) (Nat.le_of_ble_eq_true rfl) dL_part_20 hQ9 rfl (Or.inl ⟨rfl, r, by simp [vp_updL], hp⟩)
set_option maxRecDepth 100000 in
set_option maxHeartbeats 600000 in
theorem je_site (l : Launch) (hst9 : l.stackTraces = false) (D : va_G) (q : Nat → Nat) (cI cZ cL : ClassId) (S : JS) (u : JX) (g : Nat → Int64) (hW9 : jWf S) (hS9 : jxR1 S u) (x9 a : Int32) : jkL l yL_site wsL_site ({ frames := 7, cells := 1, slots := 6, locals := 130 }) D vwCl (jLt cI cZ cL) (jlc q cI cZ cL) [.ref (q 0), .int x9, .int a, .ref (q 12)] (jlc q cI cZ cL (u, g)) (jlp [(1, jEO), (2, jEA), (3, jES)] (fun r u1 => jcS S x9 a = 0 ∧ nI (jK S) = r ∧ jxR1 (jaddS S x9 a) u1) (fun E u1 => u = u1 ∧ ((E = jEO ∧ jcS S x9 a = 1) ∨ (E = jEA ∧ jcS S x9 a = 2) ∨ (E = jES ∧ jcS S x9 a = 3)))) := by
  refine jkL_of (cc := cL_site) (maxL := 5) (ret := (some .int)) (by decide) rfl (Nat.le_of_ble_eq_true rfl) ?_
  intro p e R s m args below meth c Q A K hR9 hTb hZ hQ9
  show jaW p l e R s m args below meth c 0 0 Q D vwCl A 5 (jlc q cI cZ cL (u, g)) [(0, .ref (q 0)), (1, .int x9), (2, .int a), (3, .ref (q 12))] 0 []
  refine ja_aload_n K 3 dL_site_0 rfl ?_
  refine ja_iconst K (nI 0) dL_site_1 (by decide) ?_
  refine ja_aload_n K 0 dL_site_2 rfl ?_
  refine ja_iload_n K 1 dL_site_3 rfl ?_
  refine ja_iload_n K 2 dL_site_4 rfl ?_
  refine ja_fcallVX K (wr := [(q 12, .inl (cL, 1, .inr (.inl g)))]) [1, 2, 3, 4, 5, 6, 7, 8, 9, 10, 11, 12] [0] [0, 1] rfl rfl rfl rfl rfl (by decide) rfl (q0 := 0) (qc := (RX0, TX0, 13)) (st := [.int (nI 0), .ref (q 12)]) [.int x9, .int a] (jc_site l hst9 D q cI cZ S u hW9 hS9 x9 a) (cwV 2 K.1.2.2.2.2 (gL_X0_site _) rfl rfl rfl (by decide +kernel) (by rw [hR9]; exact ⟨Nat.le_of_ble_eq_true rfl, Nat.le_of_ble_eq_true rfl⟩)) rfl rfl rfl rfl rfl (Nat.le_of_ble_eq_true rfl) dL_site_5 (by rw [hR9]; exact ⟨Nat.le_of_ble_eq_true rfl, Nat.le_of_ble_eq_true rfl⟩) hZ.1 hTb (fun E u1 hx => ?_) (fun r u1 hp => ?_)
  · have hx1 := hx
    obtain ⟨-, h1 | h1 | h1⟩ := hx1
    · have hE := h1.1
      subst hE
      refine ⟨[], [(0, 10, 17, 13), (0, 10, 21, 15)], (0, 10, 13, 21), jEO, rfl, (fun _ h => absurd h List.not_mem_nil), by decide, by decide, List.mem_cons_of_mem _ kcL_21, jcaO, fun q9 => ?_⟩
      refine ja_astore K (lv1 := [(0, .ref (q 0)), (1, .int x9), (2, .int a), (3, .ref (q 12)), (4, .ref q9)]) dL_site_13 (by decide) rfl rfl ?_
      refine ja_iconst K (nI 1) dL_site_15 (by decide) ?_
      exact ja_iret K (u1, g) rfl (Nat.le_of_ble_eq_true rfl) (Nat.le_of_ble_eq_true rfl) dL_site_16 hQ9 rfl (Or.inr ⟨1, _, by simp, rfl, hx⟩)
    · have hE := h1.1
      subst hE
      refine ⟨[(0, 10, 13, 21)], [(0, 10, 21, 15)], (0, 10, 17, 13), jEA, rfl, (List.forall_mem_cons.mpr ⟨⟨by decide, _, List.mem_cons_of_mem _ kcL_21, hZ.2.2.1⟩, (fun _ h => absurd h List.not_mem_nil)⟩), by decide, by decide, List.mem_cons_of_mem _ kcL_13, jcaA, fun q9 => ?_⟩
      refine ja_astore K (lv1 := [(0, .ref (q 0)), (1, .int x9), (2, .int a), (3, .ref (q 12)), (4, .ref q9)]) dL_site_17 (by decide) rfl rfl ?_
      refine ja_iconst K (nI 2) dL_site_19 (by decide) ?_
      exact ja_iret K (u1, g) rfl (Nat.le_of_ble_eq_true rfl) (Nat.le_of_ble_eq_true rfl) dL_site_20 hQ9 rfl (Or.inr ⟨2, _, by simp, rfl, hx⟩)
    · have hE := h1.1
      subst hE
      refine ⟨[(0, 10, 13, 21), (0, 10, 17, 13)], [], (0, 10, 21, 15), jES, rfl, (List.forall_mem_cons.mpr ⟨⟨by decide, _, List.mem_cons_of_mem _ kcL_21, hZ.2.2.2⟩, (List.forall_mem_cons.mpr ⟨⟨by decide, _, List.mem_cons_of_mem _ kcL_13, hZ.2.1⟩, (fun _ h => absurd h List.not_mem_nil)⟩)⟩), by decide, by decide, List.mem_cons_of_mem _ kcL_15, jcaS, fun q9 => ?_⟩
      refine ja_astore K (lv1 := [(0, .ref (q 0)), (1, .int x9), (2, .int a), (3, .ref (q 12)), (4, .ref q9)]) dL_site_21 (by decide) rfl rfl ?_
      refine ja_iconst K (nI 3) dL_site_23 (by decide) ?_
      exact ja_iret K (u1, g) rfl (Nat.le_of_ble_eq_true rfl) (Nat.le_of_ble_eq_true rfl) dL_site_24 hQ9 rfl (Or.inr ⟨3, _, by simp, rfl, hx⟩)
  · refine ja_i2l K (r.toInt64) dL_site_8 rfl ?_
    refine ja_last K (ws1 := jlc q cI cZ cL (u1, vp_updL g 0 r.toInt64)) 0 2 rfl rfl 0 rfl (by decide) (by decide) dL_site_9 rfl ?_
    refine ja_goto K (tgt := 25) dL_site_10 (by decide) ?_
    refine ja_iconst K (nI 0) dL_site_25 (by decide) ?_
    exact ja_iret K (u1, vp_updL g 0 r.toInt64) rfl (Nat.le_of_ble_eq_true rfl) (Nat.le_of_ble_eq_true rfl) dL_site_26 hQ9 rfl (Or.inl ⟨rfl, r, by simp [vp_updL], hp⟩)
set_option maxRecDepth 100000 in
set_option maxHeartbeats 600000 in
theorem je_mutate (l : Launch) (hst9 : l.stackTraces = false) (D : va_G) (q : Nat → Nat) (cI cZ cL : ClassId) (S : JS) (u : JX) (g : Nat → Int64) (hW9 : jWf S) (hS9 : jxR1 S u) (i9 c9 z : Int32) : jkL l yL_mutate wsL_mutate ({ frames := 7, cells := 1, slots := 6, locals := 130 }) D vwCl (jLt cI cZ cL) (jlc q cI cZ cL) [.ref (q 0), .int i9, .int c9, .int z, .ref (q 12)] (jlc q cI cZ cL (u, g)) (jlp [(1, jEO), (2, jEA)] (fun r u1 => jcM S i9 c9 z = 0 ∧ jeI (jL S (jv i9) (jv c9)) = r ∧ jxR1 (jsetL S (jv i9) (jv c9) (jlo z)) u1) (fun E u1 => u = u1 ∧ ((E = jEO ∧ jcM S i9 c9 z = 1) ∨ (E = jEA ∧ jcM S i9 c9 z = 2)))) := by
  refine jkL_of (cc := cL_mutate) (maxL := 6) (ret := (some .int)) (by decide) rfl (Nat.le_of_ble_eq_true rfl) ?_
  intro p e R s m args below meth c Q A K hR9 hTb hZ hQ9
  show jaW p l e R s m args below meth c 0 0 Q D vwCl A 6 (jlc q cI cZ cL (u, g)) [(0, .ref (q 0)), (1, .int i9), (2, .int c9), (3, .int z), (4, .ref (q 12))] 0 []
  refine ja_aload K 4 dL_mutate_0 rfl ?_
  refine ja_iconst K (nI 0) dL_mutate_2 (by decide) ?_
  refine ja_aload_n K 0 dL_mutate_3 rfl ?_
  refine ja_iload_n K 1 dL_mutate_4 rfl ?_
  refine ja_iload_n K 2 dL_mutate_5 rfl ?_
  refine ja_iload_n K 3 dL_mutate_6 rfl ?_
  refine ja_fcallVX K (wr := [(q 12, .inl (cL, 1, .inr (.inl g)))]) [1, 2, 3, 4, 5, 6, 7, 8, 9, 10, 11, 12] [0] [0, 1] rfl rfl rfl rfl rfl (by decide) rfl (q0 := 0) (qc := (RX0, TX0, 13)) (st := [.int (nI 0), .ref (q 12)]) [.int i9, .int c9, .int z] (jc_mutate l hst9 D q cI cZ S u hW9 hS9 i9 c9 z) (cwV 3 K.1.2.2.2.2 (gL_X0_mutate _) rfl rfl rfl (by decide +kernel) (by rw [hR9]; exact ⟨Nat.le_of_ble_eq_true rfl, Nat.le_of_ble_eq_true rfl⟩)) rfl rfl rfl rfl rfl (Nat.le_of_ble_eq_true rfl) dL_mutate_7 (by rw [hR9]; exact ⟨Nat.le_of_ble_eq_true rfl, Nat.le_of_ble_eq_true rfl⟩) hZ.1 hTb (fun E u1 hx => ?_) (fun r u1 hp => ?_)
  · have hx1 := hx
    obtain ⟨-, h1 | h1⟩ := hx1
    · have hE := h1.1
      subst hE
      refine ⟨[], [(0, 12, 19, 13)], (0, 12, 15, 21), jEO, rfl, (fun _ h => absurd h List.not_mem_nil), by decide, by decide, List.mem_cons_of_mem _ kcL_21, jcaO, fun q9 => ?_⟩
      refine ja_astore K (lv1 := [(0, .ref (q 0)), (1, .int i9), (2, .int c9), (3, .int z), (4, .ref (q 12)), (5, .ref q9)]) dL_mutate_15 (by decide) rfl rfl ?_
      refine ja_iconst K (nI 1) dL_mutate_17 (by decide) ?_
      exact ja_iret K (u1, g) rfl (Nat.le_of_ble_eq_true rfl) (Nat.le_of_ble_eq_true rfl) dL_mutate_18 hQ9 rfl (Or.inr ⟨1, _, by simp, rfl, hx⟩)
    · have hE := h1.1
      subst hE
      refine ⟨[(0, 12, 15, 21)], [], (0, 12, 19, 13), jEA, rfl, (List.forall_mem_cons.mpr ⟨⟨by decide, _, List.mem_cons_of_mem _ kcL_21, hZ.2.2.1⟩, (fun _ h => absurd h List.not_mem_nil)⟩), by decide, by decide, List.mem_cons_of_mem _ kcL_13, jcaA, fun q9 => ?_⟩
      refine ja_astore K (lv1 := [(0, .ref (q 0)), (1, .int i9), (2, .int c9), (3, .int z), (4, .ref (q 12)), (5, .ref q9)]) dL_mutate_19 (by decide) rfl rfl ?_
      refine ja_iconst K (nI 2) dL_mutate_21 (by decide) ?_
      exact ja_iret K (u1, g) rfl (Nat.le_of_ble_eq_true rfl) (Nat.le_of_ble_eq_true rfl) dL_mutate_22 hQ9 rfl (Or.inr ⟨2, _, by simp, rfl, hx⟩)
  · refine ja_i2l K (r.toInt64) dL_mutate_10 rfl ?_
    refine ja_last K (ws1 := jlc q cI cZ cL (u1, vp_updL g 0 r.toInt64)) 0 2 rfl rfl 0 rfl (by decide) (by decide) dL_mutate_11 rfl ?_
    refine ja_goto K (tgt := 23) dL_mutate_12 (by decide) ?_
    refine ja_iconst K (nI 0) dL_mutate_23 (by decide) ?_
    exact ja_iret K (u1, vp_updL g 0 r.toInt64) rfl (Nat.le_of_ble_eq_true rfl) (Nat.le_of_ble_eq_true rfl) dL_mutate_24 hQ9 rfl (Or.inl ⟨rfl, r, by simp [vp_updL], hp⟩)
set_option maxRecDepth 100000 in
set_option maxHeartbeats 600000 in
theorem je_time (l : Launch) (hst9 : l.stackTraces = false) (D : va_G) (q : Nat → Nat) (cI cZ cL : ClassId) (S : JS) (u : JX) (g : Nat → Int64) (hW9 : jWf S) (hS9 : jxR1 S u) (c9 : Int32) : jkL l yL_time wsL_time ({ frames := 7, cells := 1, slots := 6, locals := 130 }) D vwCl (jLt cI cZ cL) (jlc q cI cZ cL) [.ref (q 0), .int c9, .ref (q 12)] (jlc q cI cZ cL (u, g)) (jlp [(1, jEO)] (fun r u1 => jin c9 (jN S) = true ∧ nI (jT S (jv c9)) = r ∧ u = u1) (fun E u1 => u = u1 ∧ E = jEO ∧ jin c9 (jN S) = false)) := by
  refine jkL_of (cc := cL_time) (maxL := 4) (ret := (some .int)) (by decide) rfl (Nat.le_of_ble_eq_true rfl) ?_
  intro p e R s m args below meth c Q A K hR9 hTb hZ hQ9
  show jaW p l e R s m args below meth c 0 0 Q D vwCl A 4 (jlc q cI cZ cL (u, g)) [(0, .ref (q 0)), (1, .int c9), (2, .ref (q 12))] 0 []
  refine ja_aload_n K 2 dL_time_0 rfl ?_
  refine ja_iconst K (nI 0) dL_time_1 (by decide) ?_
  refine ja_aload_n K 0 dL_time_2 rfl ?_
  refine ja_iload_n K 1 dL_time_3 rfl ?_
  refine ja_fcallVX K (wr := [(q 12, .inl (cL, 1, .inr (.inl g)))]) [1, 2, 3, 4, 5, 6, 7, 8, 9, 10, 11, 12] [0] [0, 1] rfl rfl rfl rfl rfl (by decide) rfl (q0 := 0) (qc := (RX0, TX0, 13)) (st := [.int (nI 0), .ref (q 12)]) [.int c9] (jc_time l hst9 D q cI cZ S u hW9 hS9 c9) (cwV 1 K.1.2.2.2.2 (gL_X0_time _) rfl rfl rfl (by decide +kernel) (by rw [hR9]; exact ⟨Nat.le_of_ble_eq_true rfl, Nat.le_of_ble_eq_true rfl⟩)) rfl rfl rfl rfl rfl (Nat.le_of_ble_eq_true rfl) dL_time_4 (by rw [hR9]; exact ⟨Nat.le_of_ble_eq_true rfl, Nat.le_of_ble_eq_true rfl⟩) hZ.1 hTb (fun E u1 hx => ?_) (fun r u1 hp => ?_)
  · have hx1 := hx
    obtain ⟨-, h1⟩ := hx1
    have hE := h1.1
    subst hE
    refine ⟨[], [], (0, 9, 12, 21), jEO, rfl, (fun _ h => absurd h List.not_mem_nil), by decide, by decide, List.mem_cons_of_mem _ kcL_21, jcaO, fun q9 => ?_⟩
    refine ja_astore_n K (lv1 := [(0, .ref (q 0)), (1, .int c9), (2, .ref (q 12)), (3, .ref q9)]) dL_time_12 (by decide) rfl rfl ?_
    refine ja_iconst K (nI 1) dL_time_13 (by decide) ?_
    exact ja_iret K (u1, g) rfl (Nat.le_of_ble_eq_true rfl) (Nat.le_of_ble_eq_true rfl) dL_time_14 hQ9 rfl (Or.inr ⟨1, _, by simp, rfl, hx⟩)
  · refine ja_i2l K (r.toInt64) dL_time_7 rfl ?_
    refine ja_last K (ws1 := jlc q cI cZ cL (u1, vp_updL g 0 r.toInt64)) 0 2 rfl rfl 0 rfl (by decide) (by decide) dL_time_8 rfl ?_
    refine ja_goto K (tgt := 15) dL_time_9 (by decide) ?_
    refine ja_iconst K (nI 0) dL_time_15 (by decide) ?_
    exact ja_iret K (u1, vp_updL g 0 r.toInt64) rfl (Nat.le_of_ble_eq_true rfl) (Nat.le_of_ble_eq_true rfl) dL_time_16 hQ9 rfl (Or.inl ⟨rfl, r, by simp [vp_updL], hp⟩)
set_option maxRecDepth 100000 in
set_option maxHeartbeats 600000 in
theorem je_edge (l : Launch) (hst9 : l.stackTraces = false) (D : va_G) (q : Nat → Nat) (cI cZ cL : ClassId) (S : JS) (u : JX) (g : Nat → Int64) (hW9 : jWf S) (hS9 : jxR1 S u) (z w : Int32) : jkL l yL_edge wsL_edge ({ frames := 7, cells := 1, slots := 6, locals := 130 }) D vwCl (jLt cI cZ cL) (jlc q cI cZ cL) [.ref (q 0), .int z, .int w, .ref (q 12)] (jlc q cI cZ cL (u, g)) (jlp [(1, jEO)] (fun r u1 => jged S z w = some r ∧ u = u1) (fun E u1 => u = u1 ∧ E = jEO ∧ jged S z w = none)) := by
  refine jkL_of (cc := cL_edge) (maxL := 5) (ret := (some .int)) (by decide) rfl (Nat.le_of_ble_eq_true rfl) ?_
  intro p e R s m args below meth c Q A K hR9 hTb hZ hQ9
  show jaW p l e R s m args below meth c 0 0 Q D vwCl A 5 (jlc q cI cZ cL (u, g)) [(0, .ref (q 0)), (1, .int z), (2, .int w), (3, .ref (q 12))] 0 []
  refine ja_aload_n K 3 dL_edge_0 rfl ?_
  refine ja_iconst K (nI 0) dL_edge_1 (by decide) ?_
  refine ja_aload_n K 0 dL_edge_2 rfl ?_
  refine ja_iload_n K 1 dL_edge_3 rfl ?_
  refine ja_iload_n K 2 dL_edge_4 rfl ?_
  refine ja_fcallVX K (wr := [(q 12, .inl (cL, 1, .inr (.inl g)))]) [1, 2, 3, 4, 5, 6, 7, 8, 9, 10, 11, 12] [0] [0, 1] rfl rfl rfl rfl rfl (by decide) rfl (q0 := 0) (qc := (RX0, TX0, 13)) (st := [.int (nI 0), .ref (q 12)]) [.int z, .int w] (jc_edge l hst9 D q cI cZ S u hW9 hS9 z w) (cwV 2 K.1.2.2.2.2 (gL_X0_edge _) rfl rfl rfl (by decide +kernel) (by rw [hR9]; exact ⟨Nat.le_of_ble_eq_true rfl, Nat.le_of_ble_eq_true rfl⟩)) rfl rfl rfl rfl rfl (Nat.le_of_ble_eq_true rfl) dL_edge_5 (by rw [hR9]; exact ⟨Nat.le_of_ble_eq_true rfl, Nat.le_of_ble_eq_true rfl⟩) hZ.1 hTb (fun E u1 hx => ?_) (fun r u1 hp => ?_)
  · have hx1 := hx
    obtain ⟨-, h1⟩ := hx1
    have hE := h1.1
    subst hE
    refine ⟨[], [], (0, 10, 13, 21), jEO, rfl, (fun _ h => absurd h List.not_mem_nil), by decide, by decide, List.mem_cons_of_mem _ kcL_21, jcaO, fun q9 => ?_⟩
    refine ja_astore K (lv1 := [(0, .ref (q 0)), (1, .int z), (2, .int w), (3, .ref (q 12)), (4, .ref q9)]) dL_edge_13 (by decide) rfl rfl ?_
    refine ja_iconst K (nI 1) dL_edge_15 (by decide) ?_
    exact ja_iret K (u1, g) rfl (Nat.le_of_ble_eq_true rfl) (Nat.le_of_ble_eq_true rfl) dL_edge_16 hQ9 rfl (Or.inr ⟨1, _, by simp, rfl, hx⟩)
  · refine ja_i2l K (r.toInt64) dL_edge_8 rfl ?_
    refine ja_last K (ws1 := jlc q cI cZ cL (u1, vp_updL g 0 r.toInt64)) 0 2 rfl rfl 0 rfl (by decide) (by decide) dL_edge_9 rfl ?_
    refine ja_goto K (tgt := 17) dL_edge_10 (by decide) ?_
    refine ja_iconst K (nI 0) dL_edge_17 (by decide) ?_
    exact ja_iret K (u1, vp_updL g 0 r.toInt64) rfl (Nat.le_of_ble_eq_true rfl) (Nat.le_of_ble_eq_true rfl) dL_edge_18 hQ9 rfl (Or.inl ⟨rfl, r, by simp [vp_updL], hp⟩)
set_option maxRecDepth 100000 in
set_option maxHeartbeats 600000 in
theorem je_parent (l : Launch) (hst9 : l.stackTraces = false) (D : va_G) (q : Nat → Nat) (cI cZ cL : ClassId) (S : JS) (u : JX) (g : Nat → Int64) (hW9 : jWf S) (hS9 : jxR1 S u) (x9 c9 : Int32) : jkL l yL_parent wsL_parent ({ frames := 7, cells := 1, slots := 6, locals := 130 }) D vwCl (jLt cI cZ cL) (jlc q cI cZ cL) [.ref (q 0), .int x9, .int c9, .ref (q 12)] (jlc q cI cZ cL (u, g)) (jlp [(1, jEO)] (fun r u1 => (jin x9 60 && jin c9 (jN S)) = true ∧ jeI (jU S (jv x9) (jv c9)) = r ∧ u = u1) (fun E u1 => u = u1 ∧ E = jEO ∧ (jin x9 60 && jin c9 (jN S)) = false)) := by
  refine jkL_of (cc := cL_parent) (maxL := 5) (ret := (some .int)) (by decide) rfl (Nat.le_of_ble_eq_true rfl) ?_
  intro p e R s m args below meth c Q A K hR9 hTb hZ hQ9
  show jaW p l e R s m args below meth c 0 0 Q D vwCl A 5 (jlc q cI cZ cL (u, g)) [(0, .ref (q 0)), (1, .int x9), (2, .int c9), (3, .ref (q 12))] 0 []
  refine ja_aload_n K 3 dL_parent_0 rfl ?_
  refine ja_iconst K (nI 0) dL_parent_1 (by decide) ?_
  refine ja_aload_n K 0 dL_parent_2 rfl ?_
  refine ja_iload_n K 1 dL_parent_3 rfl ?_
  refine ja_iload_n K 2 dL_parent_4 rfl ?_
  refine ja_fcallVX K (wr := [(q 12, .inl (cL, 1, .inr (.inl g)))]) [1, 2, 3, 4, 5, 6, 7, 8, 9, 10, 11, 12] [0] [0, 1] rfl rfl rfl rfl rfl (by decide) rfl (q0 := 0) (qc := (RX0, TX0, 13)) (st := [.int (nI 0), .ref (q 12)]) [.int x9, .int c9] (jc_parent l hst9 D q cI cZ S u hW9 hS9 x9 c9) (cwV 2 K.1.2.2.2.2 (gL_X0_parent _) rfl rfl rfl (by decide +kernel) (by rw [hR9]; exact ⟨Nat.le_of_ble_eq_true rfl, Nat.le_of_ble_eq_true rfl⟩)) rfl rfl rfl rfl rfl (Nat.le_of_ble_eq_true rfl) dL_parent_5 (by rw [hR9]; exact ⟨Nat.le_of_ble_eq_true rfl, Nat.le_of_ble_eq_true rfl⟩) hZ.1 hTb (fun E u1 hx => ?_) (fun r u1 hp => ?_)
  · have hx1 := hx
    obtain ⟨-, h1⟩ := hx1
    have hE := h1.1
    subst hE
    refine ⟨[], [], (0, 10, 13, 21), jEO, rfl, (fun _ h => absurd h List.not_mem_nil), by decide, by decide, List.mem_cons_of_mem _ kcL_21, jcaO, fun q9 => ?_⟩
    refine ja_astore K (lv1 := [(0, .ref (q 0)), (1, .int x9), (2, .int c9), (3, .ref (q 12)), (4, .ref q9)]) dL_parent_13 (by decide) rfl rfl ?_
    refine ja_iconst K (nI 1) dL_parent_15 (by decide) ?_
    exact ja_iret K (u1, g) rfl (Nat.le_of_ble_eq_true rfl) (Nat.le_of_ble_eq_true rfl) dL_parent_16 hQ9 rfl (Or.inr ⟨1, _, by simp, rfl, hx⟩)
  · refine ja_i2l K (r.toInt64) dL_parent_8 rfl ?_
    refine ja_last K (ws1 := jlc q cI cZ cL (u1, vp_updL g 0 r.toInt64)) 0 2 rfl rfl 0 rfl (by decide) (by decide) dL_parent_9 rfl ?_
    refine ja_goto K (tgt := 17) dL_parent_10 (by decide) ?_
    refine ja_iconst K (nI 0) dL_parent_17 (by decide) ?_
    exact ja_iret K (u1, vp_updL g 0 r.toInt64) rfl (Nat.le_of_ble_eq_true rfl) (Nat.le_of_ble_eq_true rfl) dL_parent_18 hQ9 rfl (Or.inl ⟨rfl, r, by simp [vp_updL], hp⟩)
set_option maxRecDepth 100000 in
set_option maxHeartbeats 600000 in
theorem je_meet (l : Launch) (hst9 : l.stackTraces = false) (D : va_G) (q : Nat → Nat) (cI cZ cL : ClassId) (S : JS) (u : JX) (g : Nat → Int64) (hW9 : jWf S) (hS9 : jxR1 S u) (x9 a9 b9 : Int32) : jkL l yL_meet wsL_meet ({ frames := 7, cells := 1, slots := 6, locals := 130 }) D vwCl (jLt cI cZ cL) (jlc q cI cZ cL) [.ref (q 0), .int x9, .int a9, .int b9, .ref (q 12)] (jlc q cI cZ cL (u, g)) (jlp [(1, jEO)] (fun r u1 => (jin x9 60 && jin a9 (jN S) && jin b9 (jN S)) = true ∧ jeI (jmeet (jU S (jv x9)) (jv a9) (jv b9)) = r ∧ u = u1) (fun E u1 => u = u1 ∧ E = jEO ∧ (jin x9 60 && jin a9 (jN S) && jin b9 (jN S)) = false)) := by
  refine jkL_of (cc := cL_meet) (maxL := 6) (ret := (some .int)) (by decide) rfl (Nat.le_of_ble_eq_true rfl) ?_
  intro p e R s m args below meth c Q A K hR9 hTb hZ hQ9
  show jaW p l e R s m args below meth c 0 0 Q D vwCl A 6 (jlc q cI cZ cL (u, g)) [(0, .ref (q 0)), (1, .int x9), (2, .int a9), (3, .int b9), (4, .ref (q 12))] 0 []
  refine ja_aload K 4 dL_meet_0 rfl ?_
  refine ja_iconst K (nI 0) dL_meet_2 (by decide) ?_
  refine ja_aload_n K 0 dL_meet_3 rfl ?_
  refine ja_iload_n K 1 dL_meet_4 rfl ?_
  refine ja_iload_n K 2 dL_meet_5 rfl ?_
  refine ja_iload_n K 3 dL_meet_6 rfl ?_
  refine ja_fcallVX K (wr := [(q 12, .inl (cL, 1, .inr (.inl g)))]) [1, 2, 3, 4, 5, 6, 7, 8, 9, 10, 11, 12] [0] [0, 1] rfl rfl rfl rfl rfl (by decide) rfl (q0 := 0) (qc := (RX0, TX0, 13)) (st := [.int (nI 0), .ref (q 12)]) [.int x9, .int a9, .int b9] (jc_meet l hst9 D q cI cZ S u hW9 hS9 x9 a9 b9) (cwV 3 K.1.2.2.2.2 (gL_X0_meet _) rfl rfl rfl (by decide +kernel) (by rw [hR9]; exact ⟨Nat.le_of_ble_eq_true rfl, Nat.le_of_ble_eq_true rfl⟩)) rfl rfl rfl rfl rfl (Nat.le_of_ble_eq_true rfl) dL_meet_7 (by rw [hR9]; exact ⟨Nat.le_of_ble_eq_true rfl, Nat.le_of_ble_eq_true rfl⟩) hZ.1 hTb (fun E u1 hx => ?_) (fun r u1 hp => ?_)
  · have hx1 := hx
    obtain ⟨-, h1⟩ := hx1
    have hE := h1.1
    subst hE
    refine ⟨[], [], (0, 12, 15, 21), jEO, rfl, (fun _ h => absurd h List.not_mem_nil), by decide, by decide, List.mem_cons_of_mem _ kcL_21, jcaO, fun q9 => ?_⟩
    refine ja_astore K (lv1 := [(0, .ref (q 0)), (1, .int x9), (2, .int a9), (3, .int b9), (4, .ref (q 12)), (5, .ref q9)]) dL_meet_15 (by decide) rfl rfl ?_
    refine ja_iconst K (nI 1) dL_meet_17 (by decide) ?_
    exact ja_iret K (u1, g) rfl (Nat.le_of_ble_eq_true rfl) (Nat.le_of_ble_eq_true rfl) dL_meet_18 hQ9 rfl (Or.inr ⟨1, _, by simp, rfl, hx⟩)
  · refine ja_i2l K (r.toInt64) dL_meet_10 rfl ?_
    refine ja_last K (ws1 := jlc q cI cZ cL (u1, vp_updL g 0 r.toInt64)) 0 2 rfl rfl 0 rfl (by decide) (by decide) dL_meet_11 rfl ?_
    refine ja_goto K (tgt := 19) dL_meet_12 (by decide) ?_
    refine ja_iconst K (nI 0) dL_meet_19 (by decide) ?_
    exact ja_iret K (u1, vp_updL g 0 r.toInt64) rfl (Nat.le_of_ble_eq_true rfl) (Nat.le_of_ble_eq_true rfl) dL_meet_20 hQ9 rfl (Or.inl ⟨rfl, r, by simp [vp_updL], hp⟩)
set_option maxRecDepth 100000 in
set_option maxHeartbeats 600000 in
theorem je_cut (l : Launch) (hst9 : l.stackTraces = false) (D : va_G) (q : Nat → Nat) (cI cZ cL : ClassId) (S : JS) (u : JX) (g : Nat → Int64) (hW9 : jWf S) (hS9 : jxR1 S u) (z : Int32) : jkL l yL_cut wsL_cut ({ frames := 7, cells := 1, slots := 6, locals := 130 }) D vwCl (jLt cI cZ cL) (jlc q cI cZ cL) [.ref (q 0), .int z, .ref (q 12)] (jlc q cI cZ cL (u, g)) (jlp [(1, jEO)] (fun r u1 => (∃ x0, jcut S z = some x0 ∧ nI x0 = r) ∧ u = u1) (fun E u1 => u = u1 ∧ E = jEO ∧ jcut S z = none)) := by
  refine jkL_of (cc := cL_cut) (maxL := 4) (ret := (some .int)) (by decide) rfl (Nat.le_of_ble_eq_true rfl) ?_
  intro p e R s m args below meth c Q A K hR9 hTb hZ hQ9
  show jaW p l e R s m args below meth c 0 0 Q D vwCl A 4 (jlc q cI cZ cL (u, g)) [(0, .ref (q 0)), (1, .int z), (2, .ref (q 12))] 0 []
  refine ja_aload_n K 2 dL_cut_0 rfl ?_
  refine ja_iconst K (nI 0) dL_cut_1 (by decide) ?_
  refine ja_aload_n K 0 dL_cut_2 rfl ?_
  refine ja_iload_n K 1 dL_cut_3 rfl ?_
  refine ja_fcallVX K (wr := [(q 12, .inl (cL, 1, .inr (.inl g)))]) [1, 2, 3, 4, 5, 6, 7, 8, 9, 10, 11, 12] [0] [0, 1] rfl rfl rfl rfl rfl (by decide) rfl (q0 := 0) (qc := (RX0, TX0, 13)) (st := [.int (nI 0), .ref (q 12)]) [.int z] (jc_cut l hst9 D q cI cZ S u hW9 hS9 z) (cwV 1 K.1.2.2.2.2 (gL_X0_cut _) rfl rfl rfl (by decide +kernel) (by rw [hR9]; exact ⟨Nat.le_of_ble_eq_true rfl, Nat.le_of_ble_eq_true rfl⟩)) rfl rfl rfl rfl rfl (Nat.le_of_ble_eq_true rfl) dL_cut_4 (by rw [hR9]; exact ⟨Nat.le_of_ble_eq_true rfl, Nat.le_of_ble_eq_true rfl⟩) hZ.1 hTb (fun E u1 hx => ?_) (fun r u1 hp => ?_)
  · have hx1 := hx
    obtain ⟨-, h1⟩ := hx1
    have hE := h1.1
    subst hE
    refine ⟨[], [], (0, 9, 12, 21), jEO, rfl, (fun _ h => absurd h List.not_mem_nil), by decide, by decide, List.mem_cons_of_mem _ kcL_21, jcaO, fun q9 => ?_⟩
    refine ja_astore_n K (lv1 := [(0, .ref (q 0)), (1, .int z), (2, .ref (q 12)), (3, .ref q9)]) dL_cut_12 (by decide) rfl rfl ?_
    refine ja_iconst K (nI 1) dL_cut_13 (by decide) ?_
    exact ja_iret K (u1, g) rfl (Nat.le_of_ble_eq_true rfl) (Nat.le_of_ble_eq_true rfl) dL_cut_14 hQ9 rfl (Or.inr ⟨1, _, by simp, rfl, hx⟩)
  · refine ja_i2l K (r.toInt64) dL_cut_7 rfl ?_
    refine ja_last K (ws1 := jlc q cI cZ cL (u1, vp_updL g 0 r.toInt64)) 0 2 rfl rfl 0 rfl (by decide) (by decide) dL_cut_8 rfl ?_
    refine ja_goto K (tgt := 15) dL_cut_9 (by decide) ?_
    refine ja_iconst K (nI 0) dL_cut_15 (by decide) ?_
    exact ja_iret K (u1, vp_updL g 0 r.toInt64) rfl (Nat.le_of_ble_eq_true rfl) (Nat.le_of_ble_eq_true rfl) dL_cut_16 hQ9 rfl (Or.inl ⟨rfl, r, by simp [vp_updL], hp⟩)
set_option maxRecDepth 100000 in
set_option maxHeartbeats 600000 in
theorem je_letter (l : Launch) (hst9 : l.stackTraces = false) (D : va_G) (q : Nat → Nat) (cI cZ cL : ClassId) (S : JS) (u : JX) (g : Nat → Int64) (hW9 : jWf S) (hS9 : jxR1 S u) (i9 c9 : Int32) : jkL l yL_letter wsL_letter ({ frames := 7, cells := 1, slots := 6, locals := 130 }) D vwCl (jLt cI cZ cL) (jlc q cI cZ cL) [.ref (q 0), .int i9, .int c9, .ref (q 12)] (jlc q cI cZ cL (u, g)) (jlp [(1, jEO)] (fun r u1 => (jin i9 (jK S) && jin c9 (jN S)) = true ∧ nI (jlf S (jv i9) (jv c9)) = r ∧ u = u1) (fun E u1 => u = u1 ∧ E = jEO ∧ (jin i9 (jK S) && jin c9 (jN S)) = false)) := by
  refine jkL_of (cc := cL_letter) (maxL := 5) (ret := (some .int)) (by decide) rfl (Nat.le_of_ble_eq_true rfl) ?_
  intro p e R s m args below meth c Q A K hR9 hTb hZ hQ9
  show jaW p l e R s m args below meth c 0 0 Q D vwCl A 5 (jlc q cI cZ cL (u, g)) [(0, .ref (q 0)), (1, .int i9), (2, .int c9), (3, .ref (q 12))] 0 []
  refine ja_aload_n K 3 dL_letter_0 rfl ?_
  refine ja_iconst K (nI 0) dL_letter_1 (by decide) ?_
  refine ja_aload_n K 0 dL_letter_2 rfl ?_
  refine ja_iload_n K 1 dL_letter_3 rfl ?_
  refine ja_iload_n K 2 dL_letter_4 rfl ?_
  refine ja_fcallVX K (wr := [(q 12, .inl (cL, 1, .inr (.inl g)))]) [1, 2, 3, 4, 5, 6, 7, 8, 9, 10, 11, 12] [0] [0, 1] rfl rfl rfl rfl rfl (by decide) rfl (q0 := 0) (qc := (RX0, TX0, 13)) (st := [.int (nI 0), .ref (q 12)]) [.int i9, .int c9] (jc_letter l hst9 D q cI cZ S u hW9 hS9 i9 c9) (cwV 2 K.1.2.2.2.2 (gL_X0_letter _) rfl rfl rfl (by decide +kernel) (by rw [hR9]; exact ⟨Nat.le_of_ble_eq_true rfl, Nat.le_of_ble_eq_true rfl⟩)) rfl rfl rfl rfl rfl (Nat.le_of_ble_eq_true rfl) dL_letter_5 (by rw [hR9]; exact ⟨Nat.le_of_ble_eq_true rfl, Nat.le_of_ble_eq_true rfl⟩) hZ.1 hTb (fun E u1 hx => ?_) (fun r u1 hp => ?_)
  · have hx1 := hx
    obtain ⟨-, h1⟩ := hx1
    have hE := h1.1
    subst hE
    refine ⟨[], [], (0, 10, 13, 21), jEO, rfl, (fun _ h => absurd h List.not_mem_nil), by decide, by decide, List.mem_cons_of_mem _ kcL_21, jcaO, fun q9 => ?_⟩
    refine ja_astore K (lv1 := [(0, .ref (q 0)), (1, .int i9), (2, .int c9), (3, .ref (q 12)), (4, .ref q9)]) dL_letter_13 (by decide) rfl rfl ?_
    refine ja_iconst K (nI 1) dL_letter_15 (by decide) ?_
    exact ja_iret K (u1, g) rfl (Nat.le_of_ble_eq_true rfl) (Nat.le_of_ble_eq_true rfl) dL_letter_16 hQ9 rfl (Or.inr ⟨1, _, by simp, rfl, hx⟩)
  · refine ja_i2l K (r.toInt64) dL_letter_8 rfl ?_
    refine ja_last K (ws1 := jlc q cI cZ cL (u1, vp_updL g 0 r.toInt64)) 0 2 rfl rfl 0 rfl (by decide) (by decide) dL_letter_9 rfl ?_
    refine ja_goto K (tgt := 17) dL_letter_10 (by decide) ?_
    refine ja_iconst K (nI 0) dL_letter_17 (by decide) ?_
    exact ja_iret K (u1, vp_updL g 0 r.toInt64) rfl (Nat.le_of_ble_eq_true rfl) (Nat.le_of_ble_eq_true rfl) dL_letter_18 hQ9 rfl (Or.inl ⟨rfl, r, by simp [vp_updL], hp⟩)
