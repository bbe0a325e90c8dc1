/-! The law's small methods. -/
theorem jcaA : Cond.castable jEA jEA ∈ jzs := by decide +kernel
theorem jcaS : Cond.castable jES jES ∈ jzs := by decide +kernel
theorem jcaO : Cond.castable jEO jEO ∈ jzs := by decide +kernel
def jLt (cI cZ cL : ClassId) : List (ClassId × FieldType) := [(cI, .int), (cZ, .boolean), (cL, .long)]
def jlc (q : Nat → Nat) (cI cZ cL : ClassId) (z : JX × (Nat → Int64)) : va_W := (q 12, .inl (cL, 1, .inr (.inl z.2))) :: jxc q cI cZ z.1
def jlp (hs : List (Nat × String)) (P : Int32 → JX → Prop) (px : String → JX → Prop) (r9 : Int32) (z9 : JX × (Nat → Int64)) : Prop := (r9 = nI 0 ∧ ∃ r : Int32, z9.2 0 = r.toInt64 ∧ P r z9.1) ∨ (∃ (k : Nat) (E : String), (k, E) ∈ hs ∧ r9 = nI k ∧ px E z9.1)
set_option maxRecDepth 100000 in
set_option maxHeartbeats 600000 in
theorem je_node (l : Launch) (hst9 : l.stackTraces = false) (D : va_G) (q : Nat → Nat) (cI cZ cL : ClassId) (S : JS) (u : JX) (g : Nat → Int64) (hW9 : jWf S) (hS9 : jxR1 S u) (z : Int32) (b : Bool) : jkL l yL_node wsL_node ({ frames := 7, cells := 1, slots := 6, locals := 130 }) D vwCl (jLt cI cZ cL) (jlc q cI cZ cL) [.ref (q 0), .int z, .int (jbI b), .ref (q 12)] (jlc q cI cZ cL (u, g)) (jlp [(1, jEA), (2, jES)] (fun r u1 => jcN S z = 0 ∧ nI (jN S) = r ∧ jxR1 (jaddN S z b) u1) (fun E u1 => u = u1 ∧ ((E = jEA ∧ jcN S z = 1) ∨ (E = jES ∧ jcN S z = 2)))) := by
  refine jkL_of (cc := cL_node) (maxL := 5) (ret := (some .int)) (by decide) rfl (Nat.le_of_ble_eq_true rfl) ?_
  intro p e R s m args below meth c Q A K hR9 hTb hZ hQ9
  show jaW p l e R s m args below meth c 0 0 Q D vwCl A 5 (jlc q cI cZ cL (u, g)) [(0, .ref (q 0)), (1, .int z), (2, .int (jbI b)), (3, .ref (q 12))] 0 []
  refine ja_aload_n K 3 dL_node_0 rfl ?_
  refine ja_iconst K (nI 0) dL_node_1 (by decide) ?_
  refine ja_aload_n K 0 dL_node_2 rfl ?_
  refine ja_iload_n K 1 dL_node_3 rfl ?_
  refine ja_iload_n K 2 dL_node_4 rfl ?_
  refine ja_fcallVX K (wr := [(q 12, .inl (cL, 1, .inr (.inl g)))]) [1, 2, 3, 4, 5, 6, 7, 8, 9, 10, 11, 12] [0] [0, 1] rfl rfl rfl rfl rfl (by decide) rfl (q0 := 0) (qc := (RX0, TX0, 13)) (st := [.int (nI 0), .ref (q 12)]) [.int z, .int (jbI b)] (jc_node l hst9 D q cI cZ S u hW9 hS9 z b) (cwV 2 K.1.2.2.2.2 (gL_X0_node _) rfl rfl rfl (by decide +kernel) (by rw [hR9]; exact ⟨Nat.le_of_ble_eq_true rfl, Nat.le_of_ble_eq_true rfl⟩)) rfl rfl rfl rfl rfl (Nat.le_of_ble_eq_true rfl) dL_node_5 (by rw [hR9]; exact ⟨Nat.le_of_ble_eq_true rfl, Nat.le_of_ble_eq_true rfl⟩) hZ.1 hTb (fun E u1 hx => ?_) (fun r u1 hp => ?_)
  · have hx1 := hx
    obtain ⟨-, h1 | h1⟩ := hx1
    · have hE := h1.1
      subst hE
      refine ⟨[], [(0, 10, 17, 15)], (0, 10, 13, 13), jEA, rfl, (fun _ h => absurd h List.not_mem_nil), by decide, by decide, List.mem_cons_of_mem _ kcL_13, jcaA, fun q9 => ?_⟩
      refine ja_astore K (lv1 := [(0, .ref (q 0)), (1, .int z), (2, .int (jbI b)), (3, .ref (q 12)), (4, .ref q9)]) dL_node_13 (by decide) rfl rfl ?_
      refine ja_iconst K (nI 1) dL_node_15 (by decide) ?_
      exact ja_iret K (u1, g) rfl (Nat.le_of_ble_eq_true rfl) (Nat.le_of_ble_eq_true rfl) dL_node_16 hQ9 rfl (Or.inr ⟨1, _, by simp, rfl, hx⟩)
    · have hE := h1.1
      subst hE
      refine ⟨[(0, 10, 13, 13)], [], (0, 10, 17, 15), jES, rfl, (List.forall_mem_cons.mpr ⟨⟨by decide, _, List.mem_cons_of_mem _ kcL_13, hZ.2.1⟩, (fun _ h => absurd h List.not_mem_nil)⟩), by decide, by decide, List.mem_cons_of_mem _ kcL_15, jcaS, fun q9 => ?_⟩
      refine ja_astore K (lv1 := [(0, .ref (q 0)), (1, .int z), (2, .int (jbI b)), (3, .ref (q 12)), (4, .ref q9)]) dL_node_17 (by decide) rfl rfl ?_
      refine ja_iconst K (nI 2) dL_node_19 (by decide) ?_
      exact ja_iret K (u1, g) rfl (Nat.le_of_ble_eq_true rfl) (Nat.le_of_ble_eq_true rfl) dL_node_20 hQ9 rfl (Or.inr ⟨2, _, by simp, rfl, hx⟩)
  · refine ja_i2l K (r.toInt64) dL_node_8 rfl ?_
    refine ja_last K (ws1 := jlc q cI cZ cL (u1, vp_updL g 0 r.toInt64)) 0 2 rfl rfl 0 rfl (by decide) (by decide) dL_node_9 rfl ?_
    refine ja_goto K (tgt := 21) dL_node_10 (by decide) ?_
    refine ja_iconst K (nI 0) dL_node_21 (by decide) ?_
    exact ja_iret K (u1, vp_updL g 0 r.toInt64) rfl (Nat.le_of_ble_eq_true rfl) (Nat.le_of_ble_eq_true rfl) dL_node_22 hQ9 rfl (Or.inl ⟨rfl, r, by simp [vp_updL], hp⟩)
