theorem jcmp_self (x : Int64) : lg_cmp x x = 0 := by simp [lg_cmp]
set_option maxRecDepth 100000 in
set_option maxHeartbeats 600000 in
theorem jw_time {p : Program} {l : Launch} {e : Env} {s : State} {m : MethodId} {below : List Frame} {meth : Method} {c : Code} {b : Nat} {D : va_G} {cI cZ cL : ClassId} {q r : Nat → Nat} {k : Nat} {c0 : Cond} {N : Nat} {xs : Nat → Int32} (hst9 : l.stackTraces = false) (K : jaC p s m #[Value.ref b] meth c D vwCl (jLt cI cZ cL) code 7 (c0 :: jW0) RL ret (fun q9 => s.heap.size ≤ q9)) (hZ : jZL (fun q9 => s.heap.size ≤ q9) s) (hX : va_X b N xs s s.heap) (hbl : b < s.heap.size) (hN : N ≤ 2560) (hk : 5 * k + 5 ≤ N) (hB : jLB p l e s m below meth c b D cI cZ cL q r k) (S : JS) (u : JX) (v : JM) (g : Nat → Int64) (hW : jWf S) (hu : jxR1 S u) (hv : jmR1 S v) : jaW p l e room_1 s m #[Value.ref b] below meth c (23 + k) (3094 + 6 * k) (lw_Z below #[Value.ref b] s) D vwCl (fun q9 => s.heap.size ≤ q9) 7 (jlc q cI cZ cL (u, g) ++ jmc r cI cZ v) [(0, .ref b), (1, .ref (q 0)), (2, .ref (r 0)), (3, .ref (q 12)), (4, .int (nI (5 * k)))] 553 [] := by
  have hbA : ¬ s.heap.size ≤ b := by omega
  refine ja_aload_n K 1 dW_553 rfl ?_
  refine ja_aload_n K 0 dW_554 rfl ?_
  refine ja_iload K 4 dW_555 rfl ?_
  refine ja_iconst K (nI 1) dW_557 (by decide) ?_
  refine ja_iadd K (nI (5 * k + 1)) dW_558 (nI_add _ _) ?_
  refine ja_sld K hX hbl hbA (5 * k + 1) rfl (by omega) (by omega) dW_559 ?_
  refine ja_aload_n K 3 dW_560 rfl ?_
  refine ja_fcallSL K (hh := [(0, 9, 12, 21)]) (wr := jmc r cI cZ v) [0, 1, 2, 3, 4, 5, 6, 7, 8, 9, 10, 11, 12] [13, 14, 15, 16, 17, 18, 19, 20, 21, 22] [0, 1, 2] rfl rfl rfl rfl rfl (by decide) rfl (st := []) [.ref (q 0), .int (xs (5 * k + 1)), .ref (q 12)] (je_time l hst9 D q cI cZ cL S u g hW hu (xs (5 * k + 1))) (vx_cwSW 3 K.1.2.2.2.2 (gL_L_time _) rfl rfl rfl (by decide +kernel) ⟨Nat.le_of_ble_eq_true rfl, Nat.le_of_ble_eq_true rfl⟩) rfl rfl rfl (Nat.le_of_ble_eq_true rfl) dW_561 ⟨by show 23 + k + 1 ≤ 1064; omega, by show 3094 + 6 * k + 6 ≤ 11388; omega⟩ hZ (fun r9 z9 h9 => ?_)
  obtain ⟨u9, g9⟩ := z9
  refine ja_perm (ws1 := jlc q cI cZ cL (u9, g9) ++ jmc r cI cZ v) [10, 11, 12, 13, 14, 15, 16, 17, 18, 19, 20, 21, 22, 0, 1, 2, 3, 4, 5, 6, 7, 8, 9] rfl rfl rfl ?_
  refine ja_istore K (lv1 := [(0, .ref b), (1, .ref (q 0)), (2, .ref (r 0)), (3, .ref (q 12)), (4, .int (nI (5 * k))), (5, .int r9)]) dW_564 (by decide) rfl rfl ?_
  refine ja_aload_n K 2 dW_566 rfl ?_
  refine ja_aload_n K 0 dW_567 rfl ?_
  refine ja_iload K 4 dW_568 rfl ?_
  refine ja_iconst K (nI 1) dW_570 (by decide) ?_
  refine ja_iadd K (nI (5 * k + 1)) dW_571 (nI_add _ _) ?_
  refine ja_sld K hX hbl hbA (5 * k + 1) rfl (by omega) (by omega) dW_572 ?_
  refine ja_fcallVI K (wr := jlc q cI cZ cL (u9, g9)) [13, 14, 15, 16, 17, 18, 19, 20, 21, 22] [0, 1, 2, 3, 4, 5, 6, 7, 8, 9, 10, 11, 12] [0, 1] rfl rfl rfl rfl rfl (by decide) rfl (q0 := 0) (qc := (RX1, TX1, 16)) (st := []) [.int (xs (5 * k + 1))] (jd_time l D r cI cZ S v hW hv (xs (5 * k + 1))) (cwV 1 K.1.2.2.2.2 (gL_X1_time _) rfl rfl rfl (by decide +kernel) ⟨Nat.le_of_ble_eq_true rfl, Nat.le_of_ble_eq_true rfl⟩) rfl rfl rfl rfl rfl (Nat.le_of_ble_eq_true rfl) dW_573 ⟨by show 23 + k + 1 + 0 ≤ 1064; omega, by show 3094 + 6 * k + 6 + 0 ≤ 11388; omega⟩ (fun r8 v9 h8 => ?_)
  refine ja_istore K (lv1 := [(0, .ref b), (1, .ref (q 0)), (2, .ref (r 0)), (3, .ref (q 12)), (4, .int (nI (5 * k))), (5, .int r9), (6, .int r8)]) dW_576 (by decide) rfl rfl ?_
  refine ja_aload_n K 2 dW_578 rfl ?_
  refine ja_fcallVI K (wr := jlc q cI cZ cL (u9, g9)) [13, 14, 15, 16, 17, 18, 19, 20, 21, 22] [0, 1, 2, 3, 4, 5, 6, 7, 8, 9, 10, 11, 12] [0, 1] rfl rfl rfl rfl rfl (by decide) rfl (q0 := 0) (qc := (RX1, TX1, 16)) (st := []) [] (jd_thrown l D r cI cZ v9) (cwV 0 K.1.2.2.2.2 (gL_X1_thrown _) rfl rfl rfl (by decide +kernel) ⟨Nat.le_of_ble_eq_true rfl, Nat.le_of_ble_eq_true rfl⟩) rfl rfl rfl rfl rfl (Nat.le_of_ble_eq_true rfl) dW_579 ⟨by show 23 + k + 1 + 0 + 0 ≤ 1064; omega, by show 3094 + 6 * k + 6 + 0 + 0 ≤ 11388; omega⟩ (fun r7 v8 h7 => ?_)
  obtain ⟨rfl, rfl⟩ := h7
  refine ja_iload K 5 dW_582 rfl ?_
  rcases h9 with ⟨rfl, rr, hg, hP⟩ | ⟨kk, E, hm, rfl, hx⟩
  · obtain ⟨hc, ha, hux⟩ := hP
    have hEq : jmF v9 = nI 0 := h8.1.trans (by rw [hc]; rfl)
    have hrr : rr = r8 := ha.symm.trans (h8.2.1 hc)
    have hv9 := h8.2.2
    have hu9 : jxR1 S u9 := (show u = u9 from hux) ▸ hu
    refine ja_icmp_eq K (tgt := 589) True dW_584 (by decide) ⟨fun _ => trivial, fun _ => hEq⟩ (fun _ => ?_) (fun h9 => absurd trivial h9)
    refine ja_iload K 5 dW_589 rfl ?_
    refine ja_if_ne K (tgt := 606) False dW_591 (by decide) ⟨fun h9 => h9 (by decide), fun h9 => h9.elim⟩ (fun h9 => h9.elim) (fun _ => ?_)
    refine ja_aload_n K 3 dW_594 rfl ?_
    refine ja_iconst K (nI 0) dW_595 (by decide) ?_
    refine ja_lald K (v := g9 0) 0 2 rfl rfl 0 rfl (by decide) (by decide) rfl dW_596 ?_
    refine ja_iload K 6 dW_597 rfl ?_
    refine ja_i2l K (r8.toInt64) dW_599 rfl ?_
    refine ja_lcmp K 0 dW_600 (by rw [show g9 0 = rr.toInt64 from hg, hrr]; exact jcmp_self _) ?_
    refine ja_if_eq K (tgt := 606) True dW_601 (by decide) ⟨fun _ => trivial, fun _ => rfl⟩ (fun _ => ?_) (fun h9 => absurd trivial h9)
    refine ja_goto K (tgt := 1051) dW_606 (by decide) ?_
    refine ja_locals (lv1 := [(0, .ref b), (1, .ref (q 0)), (2, .ref (r 0)), (3, .ref (q 12)), (4, .int (nI (5 * k)))]) [0, 1, 2, 3, 4] rfl ?_
    exact ja_wide (23 + (k + 1)) (3094 + 6 * (k + 1)) (by show 23 + k + 1 + 0 + 0 ≤ _; omega) (by show 3094 + 6 * k + 6 + 0 + 0 ≤ _; omega) (hB S u9 v9 g9 hW hu9 hv9)
  · obtain ⟨hux, rfl, hc⟩ := hx
    have hkk : kk = 1 := by simpa using hm
    have hEq : jmF v9 = nI kk := h8.1.trans (by rw [hc, hkk]; rfl)
    have hv9 := h8.2.2
    have hu9 : jxR1 S u9 := (show u = u9 from hux) ▸ hu
    refine ja_icmp_eq K (tgt := 589) True dW_584 (by decide) ⟨fun _ => trivial, fun _ => hEq⟩ (fun _ => ?_) (fun h9 => absurd trivial h9)
    refine ja_iload K 5 dW_589 rfl ?_
    refine ja_if_ne K (tgt := 606) True dW_591 (by decide) ⟨fun _ => trivial, fun _ h9 => absurd ((nI_eq (a := kk) (b := 0) (by omega) (by omega)).mp h9) (by omega)⟩ (fun _ => ?_) (fun h9 => absurd trivial h9)
    refine ja_goto K (tgt := 1051) dW_606 (by decide) ?_
    refine ja_locals (lv1 := [(0, .ref b), (1, .ref (q 0)), (2, .ref (r 0)), (3, .ref (q 12)), (4, .int (nI (5 * k)))]) [0, 1, 2, 3, 4] rfl ?_
    exact ja_wide (23 + (k + 1)) (3094 + 6 * (k + 1)) (by show 23 + k + 1 + 0 + 0 ≤ _; omega) (by show 3094 + 6 * k + 6 + 0 + 0 ≤ _; omega) (hB S u9 v9 g9 hW hu9 hv9)
