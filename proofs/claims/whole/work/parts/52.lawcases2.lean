set_option maxRecDepth 100000 in
set_option maxHeartbeats 600000 in
theorem jw_count {p : Program} {l : Launch} {e : Env} {s : State} {m : MethodId} {below : List Frame} {meth : Method} {c : Code} {b : Nat} {D : va_G} {cI cZ cL : ClassId} {q r : Nat → Nat} {k : Nat} {c0 : Cond} {N : Nat} {xs : Nat → Int32} (hst9 : l.stackTraces = false) (K : jaC p s m #[Value.ref b] meth c D vwCl (jLt cI cZ cL) code 7 (c0 :: jW0) RL ret (fun q9 => s.heap.size ≤ q9)) (hZ : jZL (fun q9 => s.heap.size ≤ q9) s) (hX : va_X b N xs s s.heap) (hbl : b < s.heap.size) (hN : N ≤ 2560) (hk : 5 * k + 5 ≤ N) (hB : jLB p l e s m below meth c b D cI cZ cL q r k) (S : JS) (u : JX) (v : JM) (g : Nat → Int64) (hW : jWf S) (hu : jxR1 S u) (hv : jmR1 S v) : jaW p l e room_1 s m #[Value.ref b] below meth c (23 + k) (3094 + 6 * k) (lw_Z below #[Value.ref b] s) D vwCl (fun q9 => s.heap.size ≤ q9) 7 (jlc q cI cZ cL (u, g) ++ jmc r cI cZ v) [(0, .ref b), (1, .ref (q 0)), (2, .ref (r 0)), (3, .ref (q 12)), (4, .int (nI (5 * k)))] 528 [] := by
  have hbA : ¬ s.heap.size ≤ b := by omega
  refine ja_aload_n K 1 dW_528 rfl ?_
  refine ja_aload_n K 0 dW_529 rfl ?_
  refine ja_iload K 4 dW_530 rfl ?_
  refine ja_iconst K (nI 1) dW_532 (by decide) ?_
  refine ja_iadd K (nI (5 * k + 1)) dW_533 (nI_add _ _) ?_
  refine ja_sld K hX hbl hbA (5 * k + 1) rfl (by omega) (by omega) dW_534 ?_
  refine ja_fcallVI K (wr := (q 12, .inl (cL, 1, .inr (.inl g))) :: jmc r cI cZ v) [1, 2, 3, 4, 5, 6, 7, 8, 9, 10, 11, 12] [0, 13, 14, 15, 16, 17, 18, 19, 20, 21, 22] [0, 1] rfl rfl rfl rfl rfl (by decide) rfl (q0 := 0) (qc := (RX0, TX0, 13)) (st := []) [.int (xs (5 * k + 1))] (jc_count l D q cI cZ S u hW hu (xs (5 * k + 1))) (cwV 1 K.1.2.2.2.2 (gL_X0_count _) rfl rfl rfl (by decide +kernel) ⟨Nat.le_of_ble_eq_true rfl, Nat.le_of_ble_eq_true rfl⟩) rfl rfl rfl rfl rfl (Nat.le_of_ble_eq_true rfl) dW_535 ⟨by show 23 + k + 0 ≤ 1064; omega, by show 3094 + 6 * k + 0 ≤ 11388; omega⟩ (fun r9 u9 h9 => ?_)
  obtain ⟨rfl, rfl⟩ := h9
  have hu9 := hu
  refine ja_perm (ws1 := jlc q cI cZ cL (u, g) ++ jmc r cI cZ v) [0, 11, 12, 13, 14, 15, 16, 17, 18, 19, 20, 21, 22, 1, 2, 3, 4, 5, 6, 7, 8, 9, 10] rfl rfl rfl ?_
  refine ja_aload_n K 2 dW_538 rfl ?_
  refine ja_aload_n K 0 dW_539 rfl ?_
  refine ja_iload K 4 dW_540 rfl ?_
  refine ja_iconst K (nI 1) dW_542 (by decide) ?_
  refine ja_iadd K (nI (5 * k + 1)) dW_543 (nI_add _ _) ?_
  refine ja_sld K hX hbl hbA (5 * k + 1) rfl (by omega) (by omega) dW_544 ?_
  refine ja_fcallVI K (wr := jlc q cI cZ cL (u, g)) [13, 14, 15, 16, 17, 18, 19, 20, 21, 22] [0, 1, 2, 3, 4, 5, 6, 7, 8, 9, 10, 11, 12] [0, 1] rfl rfl rfl rfl rfl (by decide) rfl (q0 := 0) (qc := (RX1, TX1, 16)) (st := [_]) [.int (xs (5 * k + 1))] (jd_count l D r cI cZ S v hW hv (xs (5 * k + 1))) (cwV 1 K.1.2.2.2.2 (gL_X1_count _) rfl rfl rfl (by decide +kernel) ⟨Nat.le_of_ble_eq_true rfl, Nat.le_of_ble_eq_true rfl⟩) rfl rfl rfl rfl rfl (Nat.le_of_ble_eq_true rfl) dW_545 ⟨by show 23 + k + 0 + 0 ≤ 1064; omega, by show 3094 + 6 * k + 0 + 0 ≤ 11388; omega⟩ (fun r8 v9 h9 => ?_)
  obtain ⟨rfl, hv9, -⟩ := h9
  refine ja_icmp_eq K (tgt := 1051) True dW_548 (by decide) ⟨fun _ => trivial, fun _ => rfl⟩ (fun _ => ?_) (fun h9 => absurd trivial h9)
  exact ja_wide (23 + (k + 1)) (3094 + 6 * (k + 1)) (by show 23 + k + 0 + 0 ≤ _; omega) (by show 3094 + 6 * k + 0 + 0 ≤ _; omega) (hB S u v9 g hW hu9 hv9)
set_option maxRecDepth 100000 in
set_option maxHeartbeats 600000 in
theorem jw_differing {p : Program} {l : Launch} {e : Env} {s : State} {m : MethodId} {below : List Frame} {meth : Method} {c : Code} {b : Nat} {D : va_G} {cI cZ cL : ClassId} {q r : Nat → Nat} {k : Nat} {c0 : Cond} {N : Nat} {xs : Nat → Int32} (hst9 : l.stackTraces = false) (K : jaC p s m #[Value.ref b] meth c D vwCl (jLt cI cZ cL) code 7 (c0 :: jW0) RL ret (fun q9 => s.heap.size ≤ q9)) (hZ : jZL (fun q9 => s.heap.size ≤ q9) s) (hX : va_X b N xs s s.heap) (hbl : b < s.heap.size) (hN : N ≤ 2560) (hk : 5 * k + 5 ≤ N) (hB : jLB p l e s m below meth c b D cI cZ cL q r k) (S : JS) (u : JX) (v : JM) (g : Nat → Int64) (hW : jWf S) (hu : jxR1 S u) (hv : jmR1 S v) : jaW p l e room_1 s m #[Value.ref b] below meth c (23 + k) (3094 + 6 * k) (lw_Z below #[Value.ref b] s) D vwCl (fun q9 => s.heap.size ≤ q9) 7 (jlc q cI cZ cL (u, g) ++ jmc r cI cZ v) [(0, .ref b), (1, .ref (q 0)), (2, .ref (r 0)), (3, .ref (q 12)), (4, .int (nI (5 * k)))] 962 [] := by
  have hbA : ¬ s.heap.size ≤ b := by omega
  refine ja_aload_n K 1 dW_962 rfl ?_
  refine ja_fcallVI K (wr := (q 12, .inl (cL, 1, .inr (.inl g))) :: jmc r cI cZ v) [1, 2, 3, 4, 5, 6, 7, 8, 9, 10, 11, 12] [0, 13, 14, 15, 16, 17, 18, 19, 20, 21, 22] [0, 1] rfl rfl rfl rfl rfl (by decide) rfl (q0 := 0) (qc := (RX0, TX0, 13)) (st := []) [] (jc_differing l D q cI cZ S u hW hu ) (cwV 0 K.1.2.2.2.2 (gL_X0_differing _) rfl rfl rfl (by decide +kernel) ⟨Nat.le_of_ble_eq_true rfl, Nat.le_of_ble_eq_true rfl⟩) rfl rfl rfl rfl rfl (Nat.le_of_ble_eq_true rfl) dW_963 ⟨by show 23 + k + 0 ≤ 1064; omega, by show 3094 + 6 * k + 0 ≤ 11388; omega⟩ (fun r9 u9 h9 => ?_)
  obtain ⟨rfl, hu9⟩ := h9
  refine ja_perm (ws1 := jlc q cI cZ cL (u9, g) ++ jmc r cI cZ v) [0, 11, 12, 13, 14, 15, 16, 17, 18, 19, 20, 21, 22, 1, 2, 3, 4, 5, 6, 7, 8, 9, 10] rfl rfl rfl ?_
  refine ja_aload_n K 2 dW_966 rfl ?_
  refine ja_fcallVI K (wr := jlc q cI cZ cL (u9, g)) [13, 14, 15, 16, 17, 18, 19, 20, 21, 22] [0, 1, 2, 3, 4, 5, 6, 7, 8, 9, 10, 11, 12] [0, 1] rfl rfl rfl rfl rfl (by decide) rfl (q0 := 0) (qc := (RX1, TX1, 16)) (st := [_]) [] (jd_differing l D r cI cZ S v hW hv ) (cwV 0 K.1.2.2.2.2 (gL_X1_differing _) rfl rfl rfl (by decide +kernel) ⟨Nat.le_of_ble_eq_true rfl, Nat.le_of_ble_eq_true rfl⟩) rfl rfl rfl rfl rfl (Nat.le_of_ble_eq_true rfl) dW_967 ⟨by show 23 + k + 0 + 0 ≤ 1064; omega, by show 3094 + 6 * k + 0 + 0 ≤ 11388; omega⟩ (fun r8 v9 h9 => ?_)
  obtain ⟨rfl, hv9, -⟩ := h9
  refine ja_icmp_eq K (tgt := 1051) True dW_970 (by decide) ⟨fun _ => trivial, fun _ => rfl⟩ (fun _ => ?_) (fun h9 => absurd trivial h9)
  exact ja_wide (23 + (k + 1)) (3094 + 6 * (k + 1)) (by show 23 + k + 0 + 0 ≤ _; omega) (by show 3094 + 6 * k + 0 + 0 ≤ _; omega) (hB S u9 v9 g hW hu9 hv9)
set_option maxRecDepth 100000 in
set_option maxHeartbeats 600000 in
theorem jw_spectrum {p : Program} {l : Launch} {e : Env} {s : State} {m : MethodId} {below : List Frame} {meth : Method} {c : Code} {b : Nat} {D : va_G} {cI cZ cL : ClassId} {q r : Nat → Nat} {k : Nat} {c0 : Cond} {N : Nat} {xs : Nat → Int32} (hst9 : l.stackTraces = false) (K : jaC p s m #[Value.ref b] meth c D vwCl (jLt cI cZ cL) code 7 (c0 :: jW0) RL ret (fun q9 => s.heap.size ≤ q9)) (hZ : jZL (fun q9 => s.heap.size ≤ q9) s) (hX : va_X b N xs s s.heap) (hbl : b < s.heap.size) (hN : N ≤ 2560) (hk : 5 * k + 5 ≤ N) (hB : jLB p l e s m below meth c b D cI cZ cL q r k) (S : JS) (u : JX) (v : JM) (g : Nat → Int64) (hW : jWf S) (hu : jxR1 S u) (hv : jmR1 S v) : jaW p l e room_1 s m #[Value.ref b] below meth c (23 + k) (3094 + 6 * k) (lw_Z below #[Value.ref b] s) D vwCl (fun q9 => s.heap.size ≤ q9) 7 (jlc q cI cZ cL (u, g) ++ jmc r cI cZ v) [(0, .ref b), (1, .ref (q 0)), (2, .ref (r 0)), (3, .ref (q 12)), (4, .int (nI (5 * k)))] 975 [] := by
  have hbA : ¬ s.heap.size ≤ b := by omega
  refine ja_aload_n K 1 dW_975 rfl ?_
  refine ja_aload_n K 0 dW_976 rfl ?_
  refine ja_iload K 4 dW_977 rfl ?_
  refine ja_iconst K (nI 1) dW_979 (by decide) ?_
  refine ja_iadd K (nI (5 * k + 1)) dW_980 (nI_add _ _) ?_
  refine ja_sld K hX hbl hbA (5 * k + 1) rfl (by omega) (by omega) dW_981 ?_
  refine ja_fcallVI K (wr := (q 12, .inl (cL, 1, .inr (.inl g))) :: jmc r cI cZ v) [1, 2, 3, 4, 5, 6, 7, 8, 9, 10, 11, 12] [0, 13, 14, 15, 16, 17, 18, 19, 20, 21, 22] [0, 1] rfl rfl rfl rfl rfl (by decide) rfl (q0 := 0) (qc := (RX0, TX0, 13)) (st := []) [.int (xs (5 * k + 1))] (jc_spectrum l D q cI cZ S u hW hu (xs (5 * k + 1))) (cwV 1 K.1.2.2.2.2 (gL_X0_spectrum _) rfl rfl rfl (by decide +kernel) ⟨Nat.le_of_ble_eq_true rfl, Nat.le_of_ble_eq_true rfl⟩) rfl rfl rfl rfl rfl (Nat.le_of_ble_eq_true rfl) dW_982 ⟨by show 23 + k + 0 ≤ 1064; omega, by show 3094 + 6 * k + 0 ≤ 11388; omega⟩ (fun r9 u9 h9 => ?_)
  obtain ⟨rfl, hu9⟩ := h9
  refine ja_perm (ws1 := jlc q cI cZ cL (u9, g) ++ jmc r cI cZ v) [0, 11, 12, 13, 14, 15, 16, 17, 18, 19, 20, 21, 22, 1, 2, 3, 4, 5, 6, 7, 8, 9, 10] rfl rfl rfl ?_
  refine ja_aload_n K 2 dW_985 rfl ?_
  refine ja_aload_n K 0 dW_986 rfl ?_
  refine ja_iload K 4 dW_987 rfl ?_
  refine ja_iconst K (nI 1) dW_989 (by decide) ?_
  refine ja_iadd K (nI (5 * k + 1)) dW_990 (nI_add _ _) ?_
  refine ja_sld K hX hbl hbA (5 * k + 1) rfl (by omega) (by omega) dW_991 ?_
  refine ja_fcallVI K (wr := jlc q cI cZ cL (u9, g)) [13, 14, 15, 16, 17, 18, 19, 20, 21, 22] [0, 1, 2, 3, 4, 5, 6, 7, 8, 9, 10, 11, 12] [0, 1] rfl rfl rfl rfl rfl (by decide) rfl (q0 := 0) (qc := (RX1, TX1, 16)) (st := [_]) [.int (xs (5 * k + 1))] (jd_spectrum l D r cI cZ S v hW hv (xs (5 * k + 1))) (cwV 1 K.1.2.2.2.2 (gL_X1_spectrum _) rfl rfl rfl (by decide +kernel) ⟨Nat.le_of_ble_eq_true rfl, Nat.le_of_ble_eq_true rfl⟩) rfl rfl rfl rfl rfl (Nat.le_of_ble_eq_true rfl) dW_992 ⟨by show 23 + k + 0 + 0 ≤ 1064; omega, by show 3094 + 6 * k + 0 + 0 ≤ 11388; omega⟩ (fun r8 v9 h9 => ?_)
  obtain ⟨rfl, hv9, -⟩ := h9
  refine ja_icmp_eq K (tgt := 1051) True dW_995 (by decide) ⟨fun _ => trivial, fun _ => rfl⟩ (fun _ => ?_) (fun h9 => absurd trivial h9)
  exact ja_wide (23 + (k + 1)) (3094 + 6 * (k + 1)) (by show 23 + k + 0 + 0 ≤ _; omega) (by show 3094 + 6 * k + 0 + 0 ≤ _; omega) (hB S u9 v9 g hW hu9 hv9)
set_option maxRecDepth 100000 in
set_option maxHeartbeats 600000 in
theorem jw_area {p : Program} {l : Launch} {e : Env} {s : State} {m : MethodId} {below : List Frame} {meth : Method} {c : Code} {b : Nat} {D : va_G} {cI cZ cL : ClassId} {q r : Nat → Nat} {k : Nat} {c0 : Cond} {N : Nat} {xs : Nat → Int32} (hst9 : l.stackTraces = false) (K : jaC p s m #[Value.ref b] meth c D vwCl (jLt cI cZ cL) code 7 (c0 :: jW0) RL ret (fun q9 => s.heap.size ≤ q9)) (hZ : jZL (fun q9 => s.heap.size ≤ q9) s) (hX : va_X b N xs s s.heap) (hbl : b < s.heap.size) (hN : N ≤ 2560) (hk : 5 * k + 5 ≤ N) (hB : jLB p l e s m below meth c b D cI cZ cL q r k) (S : JS) (u : JX) (v : JM) (g : Nat → Int64) (hW : jWf S) (hu : jxR1 S u) (hv : jmR1 S v) : jaW p l e room_1 s m #[Value.ref b] below meth c (23 + k) (3094 + 6 * k) (lw_Z below #[Value.ref b] s) D vwCl (fun q9 => s.heap.size ≤ q9) 7 (jlc q cI cZ cL (u, g) ++ jmc r cI cZ v) [(0, .ref b), (1, .ref (q 0)), (2, .ref (r 0)), (3, .ref (q 12)), (4, .int (nI (5 * k)))] 1000 [] := by
  have hbA : ¬ s.heap.size ≤ b := by omega
  refine ja_aload_n K 1 dW_1000 rfl ?_
  refine ja_fcallVI K (wr := (q 12, .inl (cL, 1, .inr (.inl g))) :: jmc r cI cZ v) [1, 2, 3, 4, 5, 6, 7, 8, 9, 10, 11, 12] [0, 13, 14, 15, 16, 17, 18, 19, 20, 21, 22] [0, 1] rfl rfl rfl rfl rfl (by decide) rfl (q0 := 0) (qc := (RX0, TX0, 13)) (st := []) [] (jc_area l D q cI cZ S u hW hu ) (cwV 0 K.1.2.2.2.2 (gL_X0_area _) rfl rfl rfl (by decide +kernel) ⟨Nat.le_of_ble_eq_true rfl, Nat.le_of_ble_eq_true rfl⟩) rfl rfl rfl rfl rfl (Nat.le_of_ble_eq_true rfl) dW_1001 ⟨by show 23 + k + 0 ≤ 1064; omega, by show 3094 + 6 * k + 0 ≤ 11388; omega⟩ (fun r9 u9 h9 => ?_)
  obtain ⟨rfl, hu9⟩ := h9
  refine ja_perm (ws1 := jlc q cI cZ cL (u9, g) ++ jmc r cI cZ v) [0, 11, 12, 13, 14, 15, 16, 17, 18, 19, 20, 21, 22, 1, 2, 3, 4, 5, 6, 7, 8, 9, 10] rfl rfl rfl ?_
  refine ja_aload_n K 2 dW_1004 rfl ?_
  refine ja_fcallVI K (wr := jlc q cI cZ cL (u9, g)) [13, 14, 15, 16, 17, 18, 19, 20, 21, 22] [0, 1, 2, 3, 4, 5, 6, 7, 8, 9, 10, 11, 12] [0, 1] rfl rfl rfl rfl rfl (by decide) rfl (q0 := 0) (qc := (RX1, TX1, 16)) (st := [_]) [] (jd_area l D r cI cZ S v hW hv ) (cwV 0 K.1.2.2.2.2 (gL_X1_area _) rfl rfl rfl (by decide +kernel) ⟨Nat.le_of_ble_eq_true rfl, Nat.le_of_ble_eq_true rfl⟩) rfl rfl rfl rfl rfl (Nat.le_of_ble_eq_true rfl) dW_1005 ⟨by show 23 + k + 0 + 0 ≤ 1064; omega, by show 3094 + 6 * k + 0 + 0 ≤ 11388; omega⟩ (fun r8 v9 h9 => ?_)
  obtain ⟨rfl, hv9, -⟩ := h9
  refine ja_icmp_eq K (tgt := 1051) True dW_1008 (by decide) ⟨fun _ => trivial, fun _ => rfl⟩ (fun _ => ?_) (fun h9 => absurd trivial h9)
  exact ja_wide (23 + (k + 1)) (3094 + 6 * (k + 1)) (by show 23 + k + 0 + 0 ≤ _; omega) (by show 3094 + 6 * k + 0 + 0 ≤ _; omega) (hB S u9 v9 g hW hu9 hv9)
set_option maxRecDepth 100000 in
set_option maxHeartbeats 600000 in
theorem jw_simplify {p : Program} {l : Launch} {e : Env} {s : State} {m : MethodId} {below : List Frame} {meth : Method} {c : Code} {b : Nat} {D : va_G} {cI cZ cL : ClassId} {q r : Nat → Nat} {k : Nat} {c0 : Cond} {N : Nat} {xs : Nat → Int32} (hst9 : l.stackTraces = false) (K : jaC p s m #[Value.ref b] meth c D vwCl (jLt cI cZ cL) code 7 (c0 :: jW0) RL ret (fun q9 => s.heap.size ≤ q9)) (hZ : jZL (fun q9 => s.heap.size ≤ q9) s) (hX : va_X b N xs s s.heap) (hbl : b < s.heap.size) (hN : N ≤ 2560) (hk : 5 * k + 5 ≤ N) (hB : jLB p l e s m below meth c b D cI cZ cL q r k) (S : JS) (u : JX) (v : JM) (g : Nat → Int64) (hW : jWf S) (hu : jxR1 S u) (hv : jmR1 S v) : jaW p l e room_1 s m #[Value.ref b] below meth c (23 + k) (3094 + 6 * k) (lw_Z below #[Value.ref b] s) D vwCl (fun q9 => s.heap.size ≤ q9) 7 (jlc q cI cZ cL (u, g) ++ jmc r cI cZ v) [(0, .ref b), (1, .ref (q 0)), (2, .ref (r 0)), (3, .ref (q 12)), (4, .int (nI (5 * k)))] 1013 [] := by
  have hbA : ¬ s.heap.size ≤ b := by omega
  refine ja_aload_n K 1 dW_1013 rfl ?_
  refine ja_fcallVI K (wr := (q 12, .inl (cL, 1, .inr (.inl g))) :: jmc r cI cZ v) [1, 2, 3, 4, 5, 6, 7, 8, 9, 10, 11, 12] [0, 13, 14, 15, 16, 17, 18, 19, 20, 21, 22] [0, 1] rfl rfl rfl rfl rfl (by decide) rfl (q0 := 0) (qc := (RX0, TX0, 13)) (st := []) [] (jc_simplify l D q cI cZ S u hW hu ) (cwV 0 K.1.2.2.2.2 (gL_X0_simplify _) rfl rfl rfl (by decide +kernel) ⟨Nat.le_of_ble_eq_true rfl, Nat.le_of_ble_eq_true rfl⟩) rfl rfl rfl rfl rfl (Nat.le_of_ble_eq_true rfl) dW_1014 ⟨by show 23 + k + 0 ≤ 1064; omega, by show 3094 + 6 * k + 0 ≤ 11388; omega⟩ (fun r9 u9 h9 => ?_)
  obtain ⟨rfl, hu9⟩ := h9
  refine ja_perm (ws1 := jlc q cI cZ cL (u9, g) ++ jmc r cI cZ v) [0, 11, 12, 13, 14, 15, 16, 17, 18, 19, 20, 21, 22, 1, 2, 3, 4, 5, 6, 7, 8, 9, 10] rfl rfl rfl ?_
  refine ja_aload_n K 2 dW_1017 rfl ?_
  refine ja_fcallVI K (wr := jlc q cI cZ cL (u9, g)) [13, 14, 15, 16, 17, 18, 19, 20, 21, 22] [0, 1, 2, 3, 4, 5, 6, 7, 8, 9, 10, 11, 12] [0, 1] rfl rfl rfl rfl rfl (by decide) rfl (q0 := 0) (qc := (RX1, TX1, 16)) (st := [_]) [] (jd_simplify l D r cI cZ S v hW hv ) (cwV 0 K.1.2.2.2.2 (gL_X1_simplify _) rfl rfl rfl (by decide +kernel) ⟨Nat.le_of_ble_eq_true rfl, Nat.le_of_ble_eq_true rfl⟩) rfl rfl rfl rfl rfl (Nat.le_of_ble_eq_true rfl) dW_1018 ⟨by show 23 + k + 0 + 0 ≤ 1064; omega, by show 3094 + 6 * k + 0 + 0 ≤ 11388; omega⟩ (fun r8 v9 h9 => ?_)
  obtain ⟨rfl, hv9, -⟩ := h9
  refine ja_icmp_eq K (tgt := 1051) True dW_1021 (by decide) ⟨fun _ => trivial, fun _ => rfl⟩ (fun _ => ?_) (fun h9 => absurd trivial h9)
  exact ja_wide (23 + (k + 1)) (3094 + 6 * (k + 1)) (by show 23 + k + 0 + 0 ≤ _; omega) (by show 3094 + 6 * k + 0 + 0 ≤ _; omega) (hB (jsmall S) u9 v9 g (jsmall_wf hW) hu9 hv9)
set_option maxRecDepth 100000 in
set_option maxHeartbeats 600000 in
theorem jw_became {p : Program} {l : Launch} {e : Env} {s : State} {m : MethodId} {below : List Frame} {meth : Method} {c : Code} {b : Nat} {D : va_G} {cI cZ cL : ClassId} {q r : Nat → Nat} {k : Nat} {c0 : Cond} {N : Nat} {xs : Nat → Int32} (hst9 : l.stackTraces = false) (K : jaC p s m #[Value.ref b] meth c D vwCl (jLt cI cZ cL) code 7 (c0 :: jW0) RL ret (fun q9 => s.heap.size ≤ q9)) (hZ : jZL (fun q9 => s.heap.size ≤ q9) s) (hX : va_X b N xs s s.heap) (hbl : b < s.heap.size) (hN : N ≤ 2560) (hk : 5 * k + 5 ≤ N) (hB : jLB p l e s m below meth c b D cI cZ cL q r k) (S : JS) (u : JX) (v : JM) (g : Nat → Int64) (hW : jWf S) (hu : jxR1 S u) (hv : jmR1 S v) : jaW p l e room_1 s m #[Value.ref b] below meth c (23 + k) (3094 + 6 * k) (lw_Z below #[Value.ref b] s) D vwCl (fun q9 => s.heap.size ≤ q9) 7 (jlc q cI cZ cL (u, g) ++ jmc r cI cZ v) [(0, .ref b), (1, .ref (q 0)), (2, .ref (r 0)), (3, .ref (q 12)), (4, .int (nI (5 * k)))] 1026 [] := by
  have hbA : ¬ s.heap.size ≤ b := by omega
  refine ja_aload_n K 1 dW_1026 rfl ?_
  refine ja_aload_n K 0 dW_1027 rfl ?_
  refine ja_iload K 4 dW_1028 rfl ?_
  refine ja_iconst K (nI 1) dW_1030 (by decide) ?_
  refine ja_iadd K (nI (5 * k + 1)) dW_1031 (nI_add _ _) ?_
  refine ja_sld K hX hbl hbA (5 * k + 1) rfl (by omega) (by omega) dW_1032 ?_
  refine ja_fcallVI K (wr := (q 12, .inl (cL, 1, .inr (.inl g))) :: jmc r cI cZ v) [1, 2, 3, 4, 5, 6, 7, 8, 9, 10, 11, 12] [0, 13, 14, 15, 16, 17, 18, 19, 20, 21, 22] [0, 1] rfl rfl rfl rfl rfl (by decide) rfl (q0 := 0) (qc := (RX0, TX0, 13)) (st := []) [.int (xs (5 * k + 1))] (jc_became l D q cI cZ S u hW hu (xs (5 * k + 1))) (cwV 1 K.1.2.2.2.2 (gL_X0_became _) rfl rfl rfl (by decide +kernel) ⟨Nat.le_of_ble_eq_true rfl, Nat.le_of_ble_eq_true rfl⟩) rfl rfl rfl rfl rfl (Nat.le_of_ble_eq_true rfl) dW_1033 ⟨by show 23 + k + 0 ≤ 1064; omega, by show 3094 + 6 * k + 0 ≤ 11388; omega⟩ (fun r9 u9 h9 => ?_)
  obtain ⟨rfl, rfl⟩ := h9
  have hu9 := hu
  refine ja_perm (ws1 := jlc q cI cZ cL (u, g) ++ jmc r cI cZ v) [0, 11, 12, 13, 14, 15, 16, 17, 18, 19, 20, 21, 22, 1, 2, 3, 4, 5, 6, 7, 8, 9, 10] rfl rfl rfl ?_
  refine ja_aload_n K 2 dW_1036 rfl ?_
  refine ja_aload_n K 0 dW_1037 rfl ?_
  refine ja_iload K 4 dW_1038 rfl ?_
  refine ja_iconst K (nI 1) dW_1040 (by decide) ?_
  refine ja_iadd K (nI (5 * k + 1)) dW_1041 (nI_add _ _) ?_
  refine ja_sld K hX hbl hbA (5 * k + 1) rfl (by omega) (by omega) dW_1042 ?_
  refine ja_fcallVI K (wr := jlc q cI cZ cL (u, g)) [13, 14, 15, 16, 17, 18, 19, 20, 21, 22] [0, 1, 2, 3, 4, 5, 6, 7, 8, 9, 10, 11, 12] [0, 1] rfl rfl rfl rfl rfl (by decide) rfl (q0 := 0) (qc := (RX1, TX1, 16)) (st := [_]) [.int (xs (5 * k + 1))] (jd_became l D r cI cZ S v hW hv (xs (5 * k + 1))) (cwV 1 K.1.2.2.2.2 (gL_X1_became _) rfl rfl rfl (by decide +kernel) ⟨Nat.le_of_ble_eq_true rfl, Nat.le_of_ble_eq_true rfl⟩) rfl rfl rfl rfl rfl (Nat.le_of_ble_eq_true rfl) dW_1043 ⟨by show 23 + k + 0 + 0 ≤ 1064; omega, by show 3094 + 6 * k + 0 + 0 ≤ 11388; omega⟩ (fun r8 v9 h9 => ?_)
  obtain ⟨-, rfl, hv9⟩ := h9
  refine ja_icmp_eq K (tgt := 1051) True dW_1046 (by decide) ⟨fun _ => trivial, fun _ => rfl⟩ (fun _ => ?_) (fun h9 => absurd trivial h9)
  exact ja_wide (23 + (k + 1)) (3094 + 6 * (k + 1)) (by show 23 + k + 0 + 0 ≤ _; omega) (by show 3094 + 6 * k + 0 + 0 ≤ _; omega) (hB S u v9 g hW hu9 hv9)
