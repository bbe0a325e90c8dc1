/-! The law's opening. -/
theorem jcwI {R : Room} {s : State} {args : Array Value} {own : String} {index maxL mc ms : Nat} {y : MethodName} {bytes : ByteArray} {ws ws' : List Cond} {rm : Room} {Ts : List Cond} (n : Nat) (ht : ∀ w ∈ Ts, w.before args s = true) (hG : GoodIn Ts ws) (hl : Cond.methodLink own index y ∈ Ts) (hi : Cond.instanceMethod y ∈ Ts) (hini : Cond.initialized y.cls ∈ Ts) (hw : ws = Cond.code y bytes maxL none :: ws') (hn : y.name = "<init>") (hrc : rm.cells = mc) (hrs : rm.slots = ms) (hd : y.cls ≠ "java/lang/invoke/MethodHandle" ∧ y.cls ≠ "java/lang/invoke/VarHandle" ∧ (parseMethodDescriptor y.desc).map (fun d => d.parameters.length) = some n) (hR : rm.frames + 1 ≤ R.frames ∧ 8 + (maxL + 11) + rm.locals ≤ R.locals) : CallB R s args own index y bytes maxL none ws rm mc ms n ∧ y.name = "<init>" ∧ (Cond.instanceMethod y).before args s = true := by
  have hc : Cond.code y bytes maxL none ∈ ws := by rw [hw]; exact List.mem_cons_self
  refine ⟨⟨hrc, hrs, hR.1, hR.2, pay_in ht hG, hc, ht _ (hG _ hc).1, ht _ hini, ⟨hd.1, hd.2.1⟩, fun sig h => ?_, ht _ hl⟩, hn, ht _ hi⟩
  have h2 := hd.2.2
  rw [h] at h2
  exact (Option.some.inj h2).symm
set_option maxRecDepth 100000 in
set_option maxHeartbeats 600000 in
theorem whole_open {p : Program} {e : Env} {s : State} {m : MethodId} {below : List Frame} {meth : Method} {c : Code} (l : Launch) (hst9 : l.stackTraces = false) {b L : Nat} {xs : Nat → Int32} (hL : L ≤ 2560) (C0 : lw_At p s m meth c b L xs) : W p l e room_1 s m #[Value.ref b] below meth c s.heap [] 0 0 (lw_Z below #[Value.ref b] s) (entryFrame m ([Value.ref b] : List Value).toArray 7) := by
  obtain ⟨hx, hb, hr, hml, hown, hts, hX, hbl, hlocks, hgv⟩ := C0
  obtain ⟨D, cI, cZ, cL, hK⟩ := jK_start hts
  have hZ : jZL (fun q9 => s.heap.size ≤ q9) s := jZL_start hts hgv
  have K : jaC p s m #[Value.ref b] meth c D vwCl (jLt cI cZ cL) code 7 (Cond.instantiable RX0 13 :: jW0) RL ret (fun q9 => s.heap.size ≤ q9) := ⟨⟨hx, hb, hml, hown, fun w h => (List.mem_cons.mp h).elim (fun e9 => by rw [e9]; exact jW0_use hts kmk_X0) (fun h => jW0_use hts h)⟩, hK, fun q h => h, hr, hlocks⟩
  rw [lg_entry_eq]
  suffices h : jaW p l e room_1 s m #[Value.ref b] below meth c 0 0 (lw_Z below #[Value.ref b] s) D vwCl (fun q9 => s.heap.size ≤ q9) 7 [] [(0, .ref b)] 0 [] from h s.heap [] _ (fun k q h => by simp at h) ⟨fun i j a c h => by simp at h, fun k q h => by simp at h⟩ va_S.rf (lv_entry [Value.ref b] (n := 7) (Nat.le_of_ble_eq_true rfl))
  refine ja_new K (ci := 0) (fs := [.int 0, .null, .null, .null, .int 0, .null, .null, .null, .null, .null, .null, .null, .null]) (fun w h => List.mem_cons_of_mem _ (ku_X0 w h)) tyX0 tyX0_ok (List.mem_cons_of_mem _ kcL_8) (List.mem_cons_of_mem _ kmk_X0) (List.mem_cons_of_mem _ kini_X0) rfl (by intro j hj; rcases (by omega : j = 0 ∨ j = 1 ∨ j = 2 ∨ j = 3 ∨ j = 4 ∨ j = 5 ∨ j = 6 ∨ j = 7 ∨ j = 8 ∨ j = 9 ∨ j = 10 ∨ j = 11 ∨ j = 12) with rfl | rfl | rfl | rfl | rfl | rfl | rfl | rfl | rfl | rfl | rfl | rfl | rfl <;> rfl) (Nat.le_of_ble_eq_true rfl) (Nat.le_of_ble_eq_true rfl) dW_0 (fun a1 => ?_)
  refine ja_dup K dW_3 rfl ?_
  refine ja_fcallIV K (rt := none) (wr := []) (b := a1) [0] [] [0, 1] rfl rfl rfl rfl rfl (by decide) rfl (st := [.ref a1]) [] (jc_init l D a1 cI cZ) (jcwI 0 K.1.2.2.2.2 (gL_X0_init _) (List.mem_cons_of_mem _ klL_53) (List.mem_cons_of_mem _ kX0_init_i) (List.mem_cons_of_mem _ kini_X0) rfl rfl rfl rfl (by decide +kernel) ⟨Nat.le_of_ble_eq_true rfl, Nat.le_of_ble_eq_true rfl⟩) rfl rfl rfl (Nat.le_of_ble_eq_true rfl) dW_4 ⟨Nat.le_of_ble_eq_true rfl, Nat.le_of_ble_eq_true rfl⟩ (fun z1 h1 => ?_)
  obtain ⟨q, u⟩ := z1
  obtain ⟨h1, hu⟩ := h1
  replace h1 : q 0 = a1 := h1
  subst h1
  refine ja_world (ws1 := jxc q cI cZ u) rfl ?_
  refine ja_astore_n K (lv1 := [(0, .ref b), (1, .ref (q 0))]) dW_7 (by decide) rfl rfl ?_
  refine ja_new K (ci := 1) (fs := [.int 0, .int 0, .null, .null, .null, .int 0, .null, .null, .null, .null, .null, .null, .int 0, .int 0, .int 0, .int 0]) (fun w h => List.mem_cons_of_mem _ (ku_X1 w h)) tyX1 tyX1_ok (List.mem_cons_of_mem _ kcL_54) (List.mem_cons_of_mem _ kmk_X1) (List.mem_cons_of_mem _ kini_X1) rfl (by intro j hj; rcases (by omega : j = 0 ∨ j = 1 ∨ j = 2 ∨ j = 3 ∨ j = 4 ∨ j = 5 ∨ j = 6 ∨ j = 7 ∨ j = 8 ∨ j = 9 ∨ j = 10 ∨ j = 11 ∨ j = 12 ∨ j = 13 ∨ j = 14 ∨ j = 15) with rfl | rfl | rfl | rfl | rfl | rfl | rfl | rfl | rfl | rfl | rfl | rfl | rfl | rfl | rfl | rfl <;> rfl) (Nat.le_of_ble_eq_true rfl) (Nat.le_of_ble_eq_true rfl) dW_8 (fun a2 => ?_)
  refine ja_dup K dW_11 rfl ?_
  refine ja_fcallIV K (rt := none) (wr := jxc q cI cZ u) (b := a2) [12] [0, 1, 2, 3, 4, 5, 6, 7, 8, 9, 10, 11] [0, 1] rfl rfl rfl rfl rfl (by decide) rfl (st := [.ref a2]) [] (jd_init l D a2 cI cZ) (jcwI 0 K.1.2.2.2.2 (gL_X1_init _) (List.mem_cons_of_mem _ klL_56) (List.mem_cons_of_mem _ kX1_init_i) (List.mem_cons_of_mem _ kini_X1) rfl rfl rfl rfl (by decide +kernel) ⟨Nat.le_of_ble_eq_true rfl, Nat.le_of_ble_eq_true rfl⟩) rfl rfl rfl (Nat.le_of_ble_eq_true rfl) dW_12 ⟨Nat.le_of_ble_eq_true rfl, Nat.le_of_ble_eq_true rfl⟩ (fun z2 h2 => ?_)
  obtain ⟨r, v⟩ := z2
  obtain ⟨h2, hv⟩ := h2
  replace h2 : r 0 = a2 := h2
  subst h2
  refine ja_world (ws1 := jxc q cI cZ u ++ jmc r cI cZ v) rfl ?_
  refine ja_astore_n K (lv1 := [(0, .ref b), (1, .ref (q 0)), (2, .ref (r 0))]) dW_15 (by decide) rfl rfl ?_
  refine ja_iconst K (nI 1) dW_16 (by decide) ?_
  refine ja_newa K 2 (ty := .long) (atype := .long) (N1 := 1) (a0 := (1, .inr (.inl (fun _ => 0)))) rfl rfl (fun _ h => h) (List.mem_cons_of_mem _ karr_J) (fun _ => rfl) (by decide) (by decide) (by decide) (Nat.le_of_ble_eq_true rfl) (Nat.le_of_ble_eq_true rfl) dW_17 (fun a3 => ?_)
  refine ja_astore_n K (lv1 := [(0, .ref b), (1, .ref (q 0)), (2, .ref (r 0)), (3, .ref a3)]) dW_19 (by decide) rfl rfl ?_
  refine ja_iconst K (nI 0) dW_20 (by decide) ?_
  refine ja_istore K (lv1 := [(0, .ref b), (1, .ref (q 0)), (2, .ref (r 0)), (3, .ref a3), (4, .int (nI 0))]) dW_21 (by decide) rfl rfl ?_
  refine ja_perm (ws1 := jlc (fun k => if k = 12 then a3 else q k) cI cZ cL (u, fun _ => 0) ++ jmc r cI cZ v) [22, 0, 1, 2, 3, 4, 5, 6, 7, 8, 9, 10, 11, 12, 13, 14, 15, 16, 17, 18, 19, 20, 21] rfl rfl rfl ?_
  exact jw_loop (q := fun k => if k = 12 then a3 else q k) hst9 K hZ hX hbl hL 0 (Nat.zero_le _) jS0 u v (fun _ => 0) jS0_wf hu hv
