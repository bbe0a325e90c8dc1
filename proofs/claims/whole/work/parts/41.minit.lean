set_option maxRecDepth 100000 in
set_option maxHeartbeats 4000000 in
theorem jd_init (l : Launch) (D : va_G) (h0 : Nat) (cI cZ : ClassId) : jkV l yX1_init wsX1_init ({ frames := 1, cells := 9, slots := 1962, locals := 30 }) D vwCl (jxt cI cZ) (fun z : (Nat → Nat) × JM => jmc z.1 cI cZ z.2) [.ref h0] [(h0, .inr (1, [.int 0, .int 0, .null, .null, .null, .int 0, .null, .null, .null, .null, .null, .null, .int 0, .int 0, .int 0, .int 0]))] (fun z => z.1 0 = h0 ∧ jmR1 jS0 z.2) := by
  refine jkV_of (cc := cX1_init) (maxL := 2) (ret := none) (by decide) rfl (Nat.le_of_ble_eq_true rfl) ?_
  intro p e R s m args below meth c Q A K hn9 hR9 hQ9
  have hu9 : ∀ w ∈ u_ws RX1 TX1 16, w ∈ wsX1_init := fun w h => List.mem_cons_of_mem _ (ku_X1 w h)
  show jaW p l e R s m args below meth c 0 0 Q D vwCl A 2 [(h0, .inr (1, [.int 0, .int 0, .null, .null, .null, .int 0, .null, .null, .null, .null, .null, .null, .int 0, .int 0, .int 0, .int 0]))] [(0, .ref h0)] 0 []
  refine ja_aload_n K 0 dX1_init_0 rfl ?_
  refine ja_objInit K (List.mem_cons_of_mem _ klX1_1) (List.mem_cons_of_mem _ kobj_i) (List.mem_cons_of_mem _ kobj_c) dX1_init_1 (by rw [hR9]; exact Nat.le_of_ble_eq_true rfl) (by rw [hR9]; exact Nat.le_of_ble_eq_true rfl) ?_
  refine ja_aload_n K 0 dX1_init_4 rfl ?_
  refine ja_bipush K (nI 14) dX1_init_5 (by decide) ?_
  refine ja_newa K 0 (ty := .int) (atype := .int) (N1 := 14) (a0 := (14, .inl (fun _ => 0))) rfl rfl (fun _ h => h) (List.mem_cons_of_mem _ karr_I) (fun _ => rfl) (by decide) (by decide) (by decide) (by rw [hR9]; exact Nat.le_of_ble_eq_true rfl) (by rw [hR9]; exact Nat.le_of_ble_eq_true rfl) dX1_init_7 (fun a1 => ?_)
  refine ja_world (ws1 := [(h0, .inr (1, [.int 0, .int 0, .null, .null, .null, .int 0, .null, .null, .null, .null, .null, .null, .int 0, .int 0, .int 0, .int 0])), (a1, .inl (cI, 14, .inl (fun _ => 0)))]) rfl ?_
  refine ja_putF K (ws1 := [(h0, .inr (1, [.int 0, .int 0, .ref a1, .null, .null, .int 0, .null, .null, .null, .null, .null, .null, .int 0, .int 0, .int 0, .int 0])), (a1, .inl (cI, 14, .inl (fun _ => 0)))]) hu9 0 rfl rfl 2 (by decide) (List.mem_cons_of_mem _ kfX1_7) rfl tyX1 tyX1_ok nmX1 rfl hn9 rfl rfl rfl rfl (Nat.le_of_ble_eq_true rfl) dX1_init_9 rfl ?_
  refine ja_aload_n K 0 dX1_init_12 rfl ?_
  refine ja_bipush K (nI 14) dX1_init_13 (by decide) ?_
  refine ja_newa K 1 (ty := .boolean) (atype := .boolean) (N1 := 14) (a0 := (14, .inl (fun _ => 0))) rfl rfl (fun _ h => h) (List.mem_cons_of_mem _ karr_Z) (fun _ => rfl) (by decide) (by decide) (by decide) (by rw [hR9]; exact Nat.le_of_ble_eq_true rfl) (by rw [hR9]; exact Nat.le_of_ble_eq_true rfl) dX1_init_15 (fun a2 => ?_)
  refine ja_world (ws1 := [(h0, .inr (1, [.int 0, .int 0, .ref a1, .null, .null, .int 0, .null, .null, .null, .null, .null, .null, .int 0, .int 0, .int 0, .int 0])), (a1, .inl (cI, 14, .inl (fun _ => 0))), (a2, .inl (cZ, 14, .inl (fun _ => 0)))]) rfl ?_
  refine ja_putF K (ws1 := [(h0, .inr (1, [.int 0, .int 0, .ref a1, .ref a2, .null, .int 0, .null, .null, .null, .null, .null, .null, .int 0, .int 0, .int 0, .int 0])), (a1, .inl (cI, 14, .inl (fun _ => 0))), (a2, .inl (cZ, 14, .inl (fun _ => 0)))]) hu9 0 rfl rfl 3 (by decide) (List.mem_cons_of_mem _ kfX1_13) rfl tyX1 tyX1_ok nmX1 rfl hn9 rfl rfl rfl rfl (Nat.le_of_ble_eq_true rfl) dX1_init_17 rfl ?_
  refine ja_aload_n K 0 dX1_init_20 rfl ?_
  refine ja_sipush K (nI 840) dX1_init_21 (by decide) ?_
  refine ja_newa K 0 (ty := .int) (atype := .int) (N1 := 840) (a0 := (840, .inl (fun _ => 0))) rfl rfl (fun _ h => h) (List.mem_cons_of_mem _ karr_I) (fun _ => rfl) (by decide) (by decide) (by decide) (by rw [hR9]; exact Nat.le_of_ble_eq_true rfl) (by rw [hR9]; exact Nat.le_of_ble_eq_true rfl) dX1_init_24 (fun a3 => ?_)
  refine ja_world (ws1 := [(h0, .inr (1, [.int 0, .int 0, .ref a1, .ref a2, .null, .int 0, .null, .null, .null, .null, .null, .null, .int 0, .int 0, .int 0, .int 0])), (a1, .inl (cI, 14, .inl (fun _ => 0))), (a2, .inl (cZ, 14, .inl (fun _ => 0))), (a3, .inl (cI, 840, .inl (fun _ => 0)))]) rfl ?_
  refine ja_putF K (ws1 := [(h0, .inr (1, [.int 0, .int 0, .ref a1, .ref a2, .ref a3, .int 0, .null, .null, .null, .null, .null, .null, .int 0, .int 0, .int 0, .int 0])), (a1, .inl (cI, 14, .inl (fun _ => 0))), (a2, .inl (cZ, 14, .inl (fun _ => 0))), (a3, .inl (cI, 840, .inl (fun _ => 0)))]) hu9 0 rfl rfl 4 (by decide) (List.mem_cons_of_mem _ kfX1_17) rfl tyX1 tyX1_ok nmX1 rfl hn9 rfl rfl rfl rfl (Nat.le_of_ble_eq_true rfl) dX1_init_26 rfl ?_
  refine ja_aload_n K 0 dX1_init_29 rfl ?_
  refine ja_bipush K (nI 8) dX1_init_30 (by decide) ?_
  refine ja_newa K 0 (ty := .int) (atype := .int) (N1 := 8) (a0 := (8, .inl (fun _ => 0))) rfl rfl (fun _ h => h) (List.mem_cons_of_mem _ karr_I) (fun _ => rfl) (by decide) (by decide) (by decide) (by rw [hR9]; exact Nat.le_of_ble_eq_true rfl) (by rw [hR9]; exact Nat.le_of_ble_eq_true rfl) dX1_init_32 (fun a4 => ?_)
  refine ja_world (ws1 := [(h0, .inr (1, [.int 0, .int 0, .ref a1, .ref a2, .ref a3, .int 0, .null, .null, .null, .null, .null, .null, .int 0, .int 0, .int 0, .int 0])), (a1, .inl (cI, 14, .inl (fun _ => 0))), (a2, .inl (cZ, 14, .inl (fun _ => 0))), (a3, .inl (cI, 840, .inl (fun _ => 0))), (a4, .inl (cI, 8, .inl (fun _ => 0)))]) rfl ?_
  refine ja_putF K (ws1 := [(h0, .inr (1, [.int 0, .int 0, .ref a1, .ref a2, .ref a3, .int 0, .ref a4, .null, .null, .null, .null, .null, .int 0, .int 0, .int 0, .int 0])), (a1, .inl (cI, 14, .inl (fun _ => 0))), (a2, .inl (cZ, 14, .inl (fun _ => 0))), (a3, .inl (cI, 840, .inl (fun _ => 0))), (a4, .inl (cI, 8, .inl (fun _ => 0)))]) hu9 0 rfl rfl 6 (by decide) (List.mem_cons_of_mem _ kfX1_20) rfl tyX1 tyX1_ok nmX1 rfl hn9 rfl rfl rfl rfl (Nat.le_of_ble_eq_true rfl) dX1_init_34 rfl ?_
  refine ja_aload_n K 0 dX1_init_37 rfl ?_
  refine ja_bipush K (nI 8) dX1_init_38 (by decide) ?_
  refine ja_newa K 0 (ty := .int) (atype := .int) (N1 := 8) (a0 := (8, .inl (fun _ => 0))) rfl rfl (fun _ h => h) (List.mem_cons_of_mem _ karr_I) (fun _ => rfl) (by decide) (by decide) (by decide) (by rw [hR9]; exact Nat.le_of_ble_eq_true rfl) (by rw [hR9]; exact Nat.le_of_ble_eq_true rfl) dX1_init_40 (fun a5 => ?_)
  refine ja_world (ws1 := [(h0, .inr (1, [.int 0, .int 0, .ref a1, .ref a2, .ref a3, .int 0, .ref a4, .null, .null, .null, .null, .null, .int 0, .int 0, .int 0, .int 0])), (a1, .inl (cI, 14, .inl (fun _ => 0))), (a2, .inl (cZ, 14, .inl (fun _ => 0))), (a3, .inl (cI, 840, .inl (fun _ => 0))), (a4, .inl (cI, 8, .inl (fun _ => 0))), (a5, .inl (cI, 8, .inl (fun _ => 0)))]) rfl ?_
  refine ja_putF K (ws1 := [(h0, .inr (1, [.int 0, .int 0, .ref a1, .ref a2, .ref a3, .int 0, .ref a4, .ref a5, .null, .null, .null, .null, .int 0, .int 0, .int 0, .int 0])), (a1, .inl (cI, 14, .inl (fun _ => 0))), (a2, .inl (cZ, 14, .inl (fun _ => 0))), (a3, .inl (cI, 840, .inl (fun _ => 0))), (a4, .inl (cI, 8, .inl (fun _ => 0))), (a5, .inl (cI, 8, .inl (fun _ => 0)))]) hu9 0 rfl rfl 7 (by decide) (List.mem_cons_of_mem _ kfX1_23) rfl tyX1 tyX1_ok nmX1 rfl hn9 rfl rfl rfl rfl (Nat.le_of_ble_eq_true rfl) dX1_init_42 rfl ?_
  refine ja_aload_n K 0 dX1_init_45 rfl ?_
  refine ja_bipush K (nI 112) dX1_init_46 (by decide) ?_
  refine ja_newa K 0 (ty := .int) (atype := .int) (N1 := 112) (a0 := (112, .inl (fun _ => 0))) rfl rfl (fun _ h => h) (List.mem_cons_of_mem _ karr_I) (fun _ => rfl) (by decide) (by decide) (by decide) (by rw [hR9]; exact Nat.le_of_ble_eq_true rfl) (by rw [hR9]; exact Nat.le_of_ble_eq_true rfl) dX1_init_48 (fun a6 => ?_)
  refine ja_world (ws1 := [(h0, .inr (1, [.int 0, .int 0, .ref a1, .ref a2, .ref a3, .int 0, .ref a4, .ref a5, .null, .null, .null, .null, .int 0, .int 0, .int 0, .int 0])), (a1, .inl (cI, 14, .inl (fun _ => 0))), (a2, .inl (cZ, 14, .inl (fun _ => 0))), (a3, .inl (cI, 840, .inl (fun _ => 0))), (a4, .inl (cI, 8, .inl (fun _ => 0))), (a5, .inl (cI, 8, .inl (fun _ => 0))), (a6, .inl (cI, 112, .inl (fun _ => 0)))]) rfl ?_
  refine ja_putF K (ws1 := [(h0, .inr (1, [.int 0, .int 0, .ref a1, .ref a2, .ref a3, .int 0, .ref a4, .ref a5, .ref a6, .null, .null, .null, .int 0, .int 0, .int 0, .int 0])), (a1, .inl (cI, 14, .inl (fun _ => 0))), (a2, .inl (cZ, 14, .inl (fun _ => 0))), (a3, .inl (cI, 840, .inl (fun _ => 0))), (a4, .inl (cI, 8, .inl (fun _ => 0))), (a5, .inl (cI, 8, .inl (fun _ => 0))), (a6, .inl (cI, 112, .inl (fun _ => 0)))]) hu9 0 rfl rfl 8 (by decide) (List.mem_cons_of_mem _ kfX1_26) rfl tyX1 tyX1_ok nmX1 rfl hn9 rfl rfl rfl rfl (Nat.le_of_ble_eq_true rfl) dX1_init_50 rfl ?_
  refine ja_aload_n K 0 dX1_init_53 rfl ?_
  refine ja_bipush K (nI 14) dX1_init_54 (by decide) ?_
  refine ja_newa K 0 (ty := .int) (atype := .int) (N1 := 14) (a0 := (14, .inl (fun _ => 0))) rfl rfl (fun _ h => h) (List.mem_cons_of_mem _ karr_I) (fun _ => rfl) (by decide) (by decide) (by decide) (by rw [hR9]; exact Nat.le_of_ble_eq_true rfl) (by rw [hR9]; exact Nat.le_of_ble_eq_true rfl) dX1_init_56 (fun a7 => ?_)
  refine ja_world (ws1 := [(h0, .inr (1, [.int 0, .int 0, .ref a1, .ref a2, .ref a3, .int 0, .ref a4, .ref a5, .ref a6, .null, .null, .null, .int 0, .int 0, .int 0, .int 0])), (a1, .inl (cI, 14, .inl (fun _ => 0))), (a2, .inl (cZ, 14, .inl (fun _ => 0))), (a3, .inl (cI, 840, .inl (fun _ => 0))), (a4, .inl (cI, 8, .inl (fun _ => 0))), (a5, .inl (cI, 8, .inl (fun _ => 0))), (a6, .inl (cI, 112, .inl (fun _ => 0))), (a7, .inl (cI, 14, .inl (fun _ => 0)))]) rfl ?_
  refine ja_putF K (ws1 := [(h0, .inr (1, [.int 0, .int 0, .ref a1, .ref a2, .ref a3, .int 0, .ref a4, .ref a5, .ref a6, .ref a7, .null, .null, .int 0, .int 0, .int 0, .int 0])), (a1, .inl (cI, 14, .inl (fun _ => 0))), (a2, .inl (cZ, 14, .inl (fun _ => 0))), (a3, .inl (cI, 840, .inl (fun _ => 0))), (a4, .inl (cI, 8, .inl (fun _ => 0))), (a5, .inl (cI, 8, .inl (fun _ => 0))), (a6, .inl (cI, 112, .inl (fun _ => 0))), (a7, .inl (cI, 14, .inl (fun _ => 0)))]) hu9 0 rfl rfl 9 (by decide) (List.mem_cons_of_mem _ kfX1_29) rfl tyX1 tyX1_ok nmX1 rfl hn9 rfl rfl rfl rfl (Nat.le_of_ble_eq_true rfl) dX1_init_58 rfl ?_
  refine ja_aload_n K 0 dX1_init_61 rfl ?_
  refine ja_sipush K (nI 840) dX1_init_62 (by decide) ?_
  refine ja_newa K 0 (ty := .int) (atype := .int) (N1 := 840) (a0 := (840, .inl (fun _ => 0))) rfl rfl (fun _ h => h) (List.mem_cons_of_mem _ karr_I) (fun _ => rfl) (by decide) (by decide) (by decide) (by rw [hR9]; exact Nat.le_of_ble_eq_true rfl) (by rw [hR9]; exact Nat.le_of_ble_eq_true rfl) dX1_init_65 (fun a8 => ?_)
  refine ja_world (ws1 := [(h0, .inr (1, [.int 0, .int 0, .ref a1, .ref a2, .ref a3, .int 0, .ref a4, .ref a5, .ref a6, .ref a7, .null, .null, .int 0, .int 0, .int 0, .int 0])), (a1, .inl (cI, 14, .inl (fun _ => 0))), (a2, .inl (cZ, 14, .inl (fun _ => 0))), (a3, .inl (cI, 840, .inl (fun _ => 0))), (a4, .inl (cI, 8, .inl (fun _ => 0))), (a5, .inl (cI, 8, .inl (fun _ => 0))), (a6, .inl (cI, 112, .inl (fun _ => 0))), (a7, .inl (cI, 14, .inl (fun _ => 0))), (a8, .inl (cI, 840, .inl (fun _ => 0)))]) rfl ?_
  refine ja_putF K (ws1 := [(h0, .inr (1, [.int 0, .int 0, .ref a1, .ref a2, .ref a3, .int 0, .ref a4, .ref a5, .ref a6, .ref a7, .ref a8, .null, .int 0, .int 0, .int 0, .int 0])), (a1, .inl (cI, 14, .inl (fun _ => 0))), (a2, .inl (cZ, 14, .inl (fun _ => 0))), (a3, .inl (cI, 840, .inl (fun _ => 0))), (a4, .inl (cI, 8, .inl (fun _ => 0))), (a5, .inl (cI, 8, .inl (fun _ => 0))), (a6, .inl (cI, 112, .inl (fun _ => 0))), (a7, .inl (cI, 14, .inl (fun _ => 0))), (a8, .inl (cI, 840, .inl (fun _ => 0)))]) hu9 0 rfl rfl 10 (by decide) (List.mem_cons_of_mem _ kfX1_32) rfl tyX1 tyX1_ok nmX1 rfl hn9 rfl rfl rfl rfl (Nat.le_of_ble_eq_true rfl) dX1_init_67 rfl ?_
  refine ja_aload_n K 0 dX1_init_70 rfl ?_
  refine ja_bipush K (nI 112) dX1_init_71 (by decide) ?_
  refine ja_newa K 0 (ty := .int) (atype := .int) (N1 := 112) (a0 := (112, .inl (fun _ => 0))) rfl rfl (fun _ h => h) (List.mem_cons_of_mem _ karr_I) (fun _ => rfl) (by decide) (by decide) (by decide) (by rw [hR9]; exact Nat.le_of_ble_eq_true rfl) (by rw [hR9]; exact Nat.le_of_ble_eq_true rfl) dX1_init_73 (fun a9 => ?_)
  refine ja_world (ws1 := [(h0, .inr (1, [.int 0, .int 0, .ref a1, .ref a2, .ref a3, .int 0, .ref a4, .ref a5, .ref a6, .ref a7, .ref a8, .null, .int 0, .int 0, .int 0, .int 0])), (a1, .inl (cI, 14, .inl (fun _ => 0))), (a2, .inl (cZ, 14, .inl (fun _ => 0))), (a3, .inl (cI, 840, .inl (fun _ => 0))), (a4, .inl (cI, 8, .inl (fun _ => 0))), (a5, .inl (cI, 8, .inl (fun _ => 0))), (a6, .inl (cI, 112, .inl (fun _ => 0))), (a7, .inl (cI, 14, .inl (fun _ => 0))), (a8, .inl (cI, 840, .inl (fun _ => 0))), (a9, .inl (cI, 112, .inl (fun _ => 0)))]) rfl ?_
  refine ja_putF K (ws1 := [(h0, .inr (1, [.int 0, .int 0, .ref a1, .ref a2, .ref a3, .int 0, .ref a4, .ref a5, .ref a6, .ref a7, .ref a8, .ref a9, .int 0, .int 0, .int 0, .int 0])), (a1, .inl (cI, 14, .inl (fun _ => 0))), (a2, .inl (cZ, 14, .inl (fun _ => 0))), (a3, .inl (cI, 840, .inl (fun _ => 0))), (a4, .inl (cI, 8, .inl (fun _ => 0))), (a5, .inl (cI, 8, .inl (fun _ => 0))), (a6, .inl (cI, 112, .inl (fun _ => 0))), (a7, .inl (cI, 14, .inl (fun _ => 0))), (a8, .inl (cI, 840, .inl (fun _ => 0))), (a9, .inl (cI, 112, .inl (fun _ => 0)))]) hu9 0 rfl rfl 11 (by decide) (List.mem_cons_of_mem _ kfX1_35) rfl tyX1 tyX1_ok nmX1 rfl hn9 rfl rfl rfl rfl (Nat.le_of_ble_eq_true rfl) dX1_init_75 rfl ?_
  obtain ⟨q, hq⟩ : ∃ q : Nat → Nat, q = (fun k => if k = 1 then a1 else if k = 2 then a2 else if k = 3 then a3 else if k = 4 then a4 else if k = 5 then a5 else if k = 6 then a6 else if k = 7 then a7 else if k = 8 then a8 else if k = 9 then a9 else h0) := ⟨_, rfl⟩
  refine ja_world (ws1 := jmc q cI cZ (fun _ => 0, fun _ _ => 0)) (by rw [hq]; rfl) ?_
  obtain rfl : q 0 = h0 := by rw [hq]; rfl
  clear hq
  refine ja_iconst K (nI 0) dX1_init_78 (by decide) ?_
  refine ja_istore_n K (lv1 := [(0, .ref (q 0)), (1, .int (nI 0))]) dX1_init_79 (by decide) rfl rfl ?_
  have L80 : ∀ (i : Nat) (g : Nat → Int32), (i ≤ 14 ∧ ∀ j, j < i → g j = -1) → jaW p l e R s m args below meth c 9 1962 Q D vwCl A 2 (jmc q cI cZ (jmsB (fun _ => 0, fun _ _ => 0) g)) [(0, .ref (q 0)), (1, .int (nI i))] 80 [] := by
    refine jl_2 (fun (i : Nat) (g : Nat → Int32) => 14 - i) (fun (i : Nat) (g : Nat → Int32) => i ≤ 14 ∧ ∀ j, j < i → g j = -1) _ ?_
    intro i g hI IH
    refine ja_iload_n K 1 dX1_init_80 rfl ?_
    refine ja_bipush K (nI 14) dX1_init_81 (by decide) ?_
    refine ja_icmp_ge K (tgt := 99) (14 ≤ i) dX1_init_83 (by decide) (nI_leI (by omega) (by omega)) (fun h7 => ?_) (fun h7 => ?_)
    · exact ja_vret K (q, jmsB (fun _ => 0, fun _ _ => 0) g) rfl (Nat.le_refl _) (Nat.le_refl _) dX1_init_99 hQ9 rfl ⟨rfl, rfl, fun i h => absurd h (Nat.not_lt_zero _), fun i h => absurd h (Nat.not_lt_zero _), fun x1 c1 h1 h2 => absurd h2 (Nat.not_lt_zero _), rfl, fun i h => absurd h (Nat.not_lt_zero _), fun i h => absurd h (Nat.not_lt_zero _), fun i1 c1 h1 h2 => absurd h2 (Nat.not_lt_zero _), fun c1 h1 => hI.2 c1 (by omega)⟩
    · refine ja_aload_n K 0 dX1_init_86 rfl ?_
      refine ja_get K hu9 0 rfl rfl 9 (by decide) (List.mem_cons_of_mem _ kfX1_29) rfl rfl dX1_init_87 ?_
      refine ja_iload_n K 1 dX1_init_90 rfl ?_
      refine ja_iconst K (-1) dX1_init_91 (by decide) ?_
      refine ja_iast K (ws1 := jmc q cI cZ (jmsB (fun _ => 0, fun _ _ => 0) (upd g i (-1)))) 7 0 rfl rfl i rfl (by omega) (by decide) dX1_init_92 rfl ?_
      refine ja_iinc K (lv1 := [(0, .ref (q 0)), (1, .int (nI (i + 1)))]) 1 (nI (i + 1)) dX1_init_93 rfl (ja_inc _) (by decide) rfl rfl ?_
      refine ja_goto K (tgt := 80) dX1_init_96 (by decide) ?_
      refine IH (i + 1) (upd g i (-1)) ⟨by omega, fun j hj => ?_⟩ (by omega)
      by_cases e1 : j = i
      · subst e1; exact pk_us
      · rw [pk_un e1]; exact hI.2 j (by omega)
  exact L80 0 (fun _ => 0) ⟨Nat.zero_le _, fun j hj => absurd hj (Nat.not_lt_zero _)⟩
