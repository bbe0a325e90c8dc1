set_option maxRecDepth 100000 in
set_option maxHeartbeats 600000 in
theorem jw_edge {p : Program} {l : Launch} {e : Env} {s : State} {m : MethodId} {below : List Frame} {meth : Method} {c : Code} {b : Nat} {D : va_G} {cI cZ cL : ClassId} {q r : Nat → Nat} {k : Nat} {c0 : Cond} {N : Nat} {xs : Nat → Int32} (hst9 : l.stackTraces = false) (K : jaC p s m #[Value.ref b] meth c D vwCl (jLt cI cZ cL) code 7 (c0 :: jW0) RL ret (fun q9 => s.heap.size ≤ q9)) (hZ : jZL (fun q9 => s.heap.size ≤ q9) s) (hX : va_X b N xs s s.heap) (hbl : b < s.heap.size) (hN : N ≤ 2560) (hk : 5 * k + 5 ≤ N) (hB : jLB p l e s m below meth c b D cI cZ cL q r k) (S : JS) (u : JX) (v : JM) (g : Nat → Int64) (hW : jWf S) (hu : jxR1 S u) (hv : jmR1 S v) : jaW p l e room_1 s m #[Value.ref b] below meth c (23 + k) (3094 + 6 * k) (lw_Z below #[Value.ref b] s) D vwCl (fun q9 => s.heap.size ≤ q9) 7 (jlc q cI cZ cL (u, g) ++ jmc r cI cZ v) [(0, .ref b), (1, .ref (q 0)), (2, .ref (r 0)), (3, .ref (q 12)), (4, .int (nI (5 * k)))] 609 [] := by
  have hbA : ¬ s.heap.size ≤ b := by omega
  refine ja_aload_n K 1 dW_609 rfl ?_
  refine ja_aload_n K 0 dW_610 rfl ?_
  refine ja_iload K 4 dW_611 rfl ?_
  refine ja_iconst K (nI 1) dW_613 (by decide) ?_
  refine ja_iadd K (nI (5 * k + 1)) dW_614 (nI_add _ _) ?_
  refine ja_sld K hX hbl hbA (5 * k + 1) rfl (by omega) (by omega) dW_615 ?_
  refine ja_aload_n K 0 dW_616 rfl ?_
  refine ja_iload K 4 dW_617 rfl ?_
  refine ja_iconst K (nI 2) dW_619 (by decide) ?_
  refine ja_iadd K (nI (5 * k + 2)) dW_620 (nI_add _ _) ?_
  refine ja_sld K hX hbl hbA (5 * k + 2) rfl (by omega) (by omega) dW_621 ?_
  refine ja_aload_n K 3 dW_622 rfl ?_
  refine ja_fcallSL K (hh := [(0, 10, 13, 21)]) (wr := jmc r cI cZ v) [0, 1, 2, 3, 4, 5, 6, 7, 8, 9, 10, 11, 12] [13, 14, 15, 16, 17, 18, 19, 20, 21, 22] [0, 1, 2] rfl rfl rfl rfl rfl (by decide) rfl (st := []) [.ref (q 0), .int (xs (5 * k + 1)), .int (xs (5 * k + 2)), .ref (q 12)] (je_edge l hst9 D q cI cZ cL S u g hW hu (xs (5 * k + 1)) (xs (5 * k + 2))) (vx_cwSW 4 K.1.2.2.2.2 (gL_L_edge _) rfl rfl rfl (by decide +kernel) ⟨Nat.le_of_ble_eq_true rfl, Nat.le_of_ble_eq_true rfl⟩) rfl rfl rfl (Nat.le_of_ble_eq_true rfl) dW_623 ⟨by show 23 + k + 1 ≤ 1064; omega, by show 3094 + 6 * k + 6 ≤ 11388; omega⟩ hZ (fun r9 z9 h9 => ?_)
  obtain ⟨u9, g9⟩ := z9
  refine ja_perm (ws1 := jlc q cI cZ cL (u9, g9) ++ jmc r cI cZ v) [10, 11, 12, 13, 14, 15, 16, 17, 18, 19, 20, 21, 22, 0, 1, 2, 3, 4, 5, 6, 7, 8, 9] rfl rfl rfl ?_
  refine ja_istore K (lv1 := [(0, .ref b), (1, .ref (q 0)), (2, .ref (r 0)), (3, .ref (q 12)), (4, .int (nI (5 * k))), (5, .int r9)]) dW_626 (by decide) rfl rfl ?_
  refine ja_aload_n K 2 dW_628 rfl ?_
  refine ja_aload_n K 0 dW_629 rfl ?_
  refine ja_iload K 4 dW_630 rfl ?_
  refine ja_iconst K (nI 1) dW_632 (by decide) ?_
  refine ja_iadd K (nI (5 * k + 1)) dW_633 (nI_add _ _) ?_
  refine ja_sld K hX hbl hbA (5 * k + 1) rfl (by omega) (by omega) dW_634 ?_
  refine ja_aload_n K 0 dW_635 rfl ?_
  refine ja_iload K 4 dW_636 rfl ?_
  refine ja_iconst K (nI 2) dW_638 (by decide) ?_
  refine ja_iadd K (nI (5 * k + 2)) dW_639 (nI_add _ _) ?_
  refine ja_sld K hX hbl hbA (5 * k + 2) rfl (by omega) (by omega) dW_640 ?_
  refine ja_fcallVI K (wr := jlc q cI cZ cL (u9, g9)) [13, 14, 15, 16, 17, 18, 19, 20, 21, 22] [0, 1, 2, 3, 4, 5, 6, 7, 8, 9, 10, 11, 12] [0, 1] rfl rfl rfl rfl rfl (by decide) rfl (q0 := 0) (qc := (RX1, TX1, 16)) (st := []) [.int (xs (5 * k + 1)), .int (xs (5 * k + 2))] (jd_edge l D r cI cZ S v hW hv (xs (5 * k + 1)) (xs (5 * k + 2))) (cwV 2 K.1.2.2.2.2 (gL_X1_edge _) rfl rfl rfl (by decide +kernel) ⟨Nat.le_of_ble_eq_true rfl, Nat.le_of_ble_eq_true rfl⟩) rfl rfl rfl rfl rfl (Nat.le_of_ble_eq_true rfl) dW_641 ⟨by show 23 + k + 1 + 0 ≤ 1064; omega, by show 3094 + 6 * k + 6 + 0 ≤ 11388; omega⟩ (fun r8 v9 h8 => ?_)
  refine ja_istore K (lv1 := [(0, .ref b), (1, .ref (q 0)), (2, .ref (r 0)), (3, .ref (q 12)), (4, .int (nI (5 * k))), (5, .int r9), (6, .int r8)]) dW_644 (by decide) rfl rfl ?_
  refine ja_aload_n K 2 dW_646 rfl ?_
  refine ja_fcallVI K (wr := jlc q cI cZ cL (u9, g9)) [13, 14, 15, 16, 17, 18, 19, 20, 21, 22] [0, 1, 2, 3, 4, 5, 6, 7, 8, 9, 10, 11, 12] [0, 1] rfl rfl rfl rfl rfl (by decide) rfl (q0 := 0) (qc := (RX1, TX1, 16)) (st := []) [] (jd_thrown l D r cI cZ v9) (cwV 0 K.1.2.2.2.2 (gL_X1_thrown _) rfl rfl rfl (by decide +kernel) ⟨Nat.le_of_ble_eq_true rfl, Nat.le_of_ble_eq_true rfl⟩) rfl rfl rfl rfl rfl (Nat.le_of_ble_eq_true rfl) dW_647 ⟨by show 23 + k + 1 + 0 + 0 ≤ 1064; omega, by show 3094 + 6 * k + 6 + 0 + 0 ≤ 11388; omega⟩ (fun r7 v8 h7 => ?_)
  obtain ⟨rfl, rfl⟩ := h7
  refine ja_iload K 5 dW_650 rfl ?_
  rcases h9 with ⟨rfl, rr, hg, hP⟩ | ⟨kk, E, hm, rfl, hx⟩
  · obtain ⟨hc, hux⟩ := hP
    have hEq : jmF v9 = nI 0 := h8.1.trans (by rw [hc]; rfl)
    have hrr : rr = r8 := h8.2.1 rr hc
    have hv9 := h8.2.2
    have hu9 : jxR1 S u9 := (show u = u9 from hux) ▸ hu
    refine ja_icmp_eq K (tgt := 657) True dW_652 (by decide) ⟨fun _ => trivial, fun _ => hEq⟩ (fun _ => ?_) (fun h9 => absurd trivial h9)
    refine ja_iload K 5 dW_657 rfl ?_
    refine ja_if_ne K (tgt := 674) False dW_659 (by decide) ⟨fun h9 => h9 (by decide), fun h9 => h9.elim⟩ (fun h9 => h9.elim) (fun _ => ?_)
    refine ja_aload_n K 3 dW_662 rfl ?_
    refine ja_iconst K (nI 0) dW_663 (by decide) ?_
    refine ja_lald K (v := g9 0) 0 2 rfl rfl 0 rfl (by decide) (by decide) rfl dW_664 ?_
    refine ja_iload K 6 dW_665 rfl ?_
    refine ja_i2l K (r8.toInt64) dW_667 rfl ?_
    refine ja_lcmp K 0 dW_668 (by rw [show g9 0 = rr.toInt64 from hg, hrr]; exact jcmp_self _) ?_
    refine ja_if_eq K (tgt := 674) True dW_669 (by decide) ⟨fun _ => trivial, fun _ => rfl⟩ (fun _ => ?_) (fun h9 => absurd trivial h9)
    refine ja_goto K (tgt := 1051) dW_674 (by decide) ?_
    refine ja_locals (lv1 := [(0, .ref b), (1, .ref (q 0)), (2, .ref (r 0)), (3, .ref (q 12)), (4, .int (nI (5 * k)))]) [0, 1, 2, 3, 4] rfl ?_
    exact ja_wide (23 + (k + 1)) (3094 + 6 * (k + 1)) (by show 23 + k + 1 + 0 + 0 ≤ _; omega) (by show 3094 + 6 * k + 6 + 0 + 0 ≤ _; omega) (hB S u9 v9 g9 hW hu9 hv9)
  · obtain ⟨hux, rfl, hc⟩ := hx
    have hkk : kk = 1 := by simpa using hm
    have hEq : jmF v9 = nI kk := h8.1.trans (by rw [hc, hkk]; rfl)
    have hv9 := h8.2.2
    have hu9 : jxR1 S u9 := (show u = u9 from hux) ▸ hu
    refine ja_icmp_eq K (tgt := 657) True dW_652 (by decide) ⟨fun _ => trivial, fun _ => hEq⟩ (fun _ => ?_) (fun h9 => absurd trivial h9)
    refine ja_iload K 5 dW_657 rfl ?_
    refine ja_if_ne K (tgt := 674) True dW_659 (by decide) ⟨fun _ => trivial, fun _ h9 => absurd ((nI_eq (a := kk) (b := 0) (by omega) (by omega)).mp h9) (by omega)⟩ (fun _ => ?_) (fun h9 => absurd trivial h9)
    refine ja_goto K (tgt := 1051) dW_674 (by decide) ?_
    refine ja_locals (lv1 := [(0, .ref b), (1, .ref (q 0)), (2, .ref (r 0)), (3, .ref (q 12)), (4, .int (nI (5 * k)))]) [0, 1, 2, 3, 4] rfl ?_
    exact ja_wide (23 + (k + 1)) (3094 + 6 * (k + 1)) (by show 23 + k + 1 + 0 + 0 ≤ _; omega) (by show 3094 + 6 * k + 6 + 0 + 0 ≤ _; omega) (hB S u9 v9 g9 hW hu9 hv9)
set_option maxRecDepth 100000 in
set_option maxHeartbeats 600000 in
theorem jw_parent {p : Program} {l : Launch} {e : Env} {s : State} {m : MethodId} {below : List Frame} {meth : Method} {c : Code} {b : Nat} {D : va_G} {cI cZ cL : ClassId} {q r : Nat → Nat} {k : Nat} {c0 : Cond} {N : Nat} {xs : Nat → Int32} (hst9 : l.stackTraces = false) (K : jaC p s m #[Value.ref b] meth c D vwCl (jLt cI cZ cL) code 7 (c0 :: jW0) RL ret (fun q9 => s.heap.size ≤ q9)) (hZ : jZL (fun q9 => s.heap.size ≤ q9) s) (hX : va_X b N xs s s.heap) (hbl : b < s.heap.size) (hN : N ≤ 2560) (hk : 5 * k + 5 ≤ N) (hB : jLB p l e s m below meth c b D cI cZ cL q r k) (S : JS) (u : JX) (v : JM) (g : Nat → Int64) (hW : jWf S) (hu : jxR1 S u) (hv : jmR1 S v) : jaW p l e room_1 s m #[Value.ref b] below meth c (23 + k) (3094 + 6 * k) (lw_Z below #[Value.ref b] s) D vwCl (fun q9 => s.heap.size ≤ q9) 7 (jlc q cI cZ cL (u, g) ++ jmc r cI cZ v) [(0, .ref b), (1, .ref (q 0)), (2, .ref (r 0)), (3, .ref (q 12)), (4, .int (nI (5 * k)))] 677 [] := by
  have hbA : ¬ s.heap.size ≤ b := by omega
  refine ja_aload_n K 1 dW_677 rfl ?_
  refine ja_aload_n K 0 dW_678 rfl ?_
  refine ja_iload K 4 dW_679 rfl ?_
  refine ja_iconst K (nI 1) dW_681 (by decide) ?_
  refine ja_iadd K (nI (5 * k + 1)) dW_682 (nI_add _ _) ?_
  refine ja_sld K hX hbl hbA (5 * k + 1) rfl (by omega) (by omega) dW_683 ?_
  refine ja_aload_n K 0 dW_684 rfl ?_
  refine ja_iload K 4 dW_685 rfl ?_
  refine ja_iconst K (nI 2) dW_687 (by decide) ?_
  refine ja_iadd K (nI (5 * k + 2)) dW_688 (nI_add _ _) ?_
  refine ja_sld K hX hbl hbA (5 * k + 2) rfl (by omega) (by omega) dW_689 ?_
  refine ja_aload_n K 3 dW_690 rfl ?_
  refine ja_fcallSL K (hh := [(0, 10, 13, 21)]) (wr := jmc r cI cZ v) [0, 1, 2, 3, 4, 5, 6, 7, 8, 9, 10, 11, 12] [13, 14, 15, 16, 17, 18, 19, 20, 21, 22] [0, 1, 2] rfl rfl rfl rfl rfl (by decide) rfl (st := []) [.ref (q 0), .int (xs (5 * k + 1)), .int (xs (5 * k + 2)), .ref (q 12)] (je_parent l hst9 D q cI cZ cL S u g hW hu (xs (5 * k + 1)) (xs (5 * k + 2))) (vx_cwSW 4 K.1.2.2.2.2 (gL_L_parent _) rfl rfl rfl (by decide +kernel) ⟨Nat.le_of_ble_eq_true rfl, Nat.le_of_ble_eq_true rfl⟩) rfl rfl rfl (Nat.le_of_ble_eq_true rfl) dW_691 ⟨by show 23 + k + 1 ≤ 1064; omega, by show 3094 + 6 * k + 6 ≤ 11388; omega⟩ hZ (fun r9 z9 h9 => ?_)
  obtain ⟨u9, g9⟩ := z9
  refine ja_perm (ws1 := jlc q cI cZ cL (u9, g9) ++ jmc r cI cZ v) [10, 11, 12, 13, 14, 15, 16, 17, 18, 19, 20, 21, 22, 0, 1, 2, 3, 4, 5, 6, 7, 8, 9] rfl rfl rfl ?_
  refine ja_istore K (lv1 := [(0, .ref b), (1, .ref (q 0)), (2, .ref (r 0)), (3, .ref (q 12)), (4, .int (nI (5 * k))), (5, .int r9)]) dW_694 (by decide) rfl rfl ?_
  refine ja_aload_n K 2 dW_696 rfl ?_
  refine ja_aload_n K 0 dW_697 rfl ?_
  refine ja_iload K 4 dW_698 rfl ?_
  refine ja_iconst K (nI 1) dW_700 (by decide) ?_
  refine ja_iadd K (nI (5 * k + 1)) dW_701 (nI_add _ _) ?_
  refine ja_sld K hX hbl hbA (5 * k + 1) rfl (by omega) (by omega) dW_702 ?_
  refine ja_aload_n K 0 dW_703 rfl ?_
  refine ja_iload K 4 dW_704 rfl ?_
  refine ja_iconst K (nI 2) dW_706 (by decide) ?_
  refine ja_iadd K (nI (5 * k + 2)) dW_707 (nI_add _ _) ?_
  refine ja_sld K hX hbl hbA (5 * k + 2) rfl (by omega) (by omega) dW_708 ?_
  refine ja_fcallVI K (wr := jlc q cI cZ cL (u9, g9)) [13, 14, 15, 16, 17, 18, 19, 20, 21, 22] [0, 1, 2, 3, 4, 5, 6, 7, 8, 9, 10, 11, 12] [0, 1] rfl rfl rfl rfl rfl (by decide) rfl (q0 := 0) (qc := (RX1, TX1, 16)) (st := []) [.int (xs (5 * k + 1)), .int (xs (5 * k + 2))] (jd_parent l D r cI cZ S v hW hv (xs (5 * k + 1)) (xs (5 * k + 2))) (cwV 2 K.1.2.2.2.2 (gL_X1_parent _) rfl rfl rfl (by decide +kernel) ⟨Nat.le_of_ble_eq_true rfl, Nat.le_of_ble_eq_true rfl⟩) rfl rfl rfl rfl rfl (Nat.le_of_ble_eq_true rfl) dW_709 ⟨by show 23 + k + 1 + 0 ≤ 1064; omega, by show 3094 + 6 * k + 6 + 0 ≤ 11388; omega⟩ (fun r8 v9 h8 => ?_)
  refine ja_istore K (lv1 := [(0, .ref b), (1, .ref (q 0)), (2, .ref (r 0)), (3, .ref (q 12)), (4, .int (nI (5 * k))), (5, .int r9), (6, .int r8)]) dW_712 (by decide) rfl rfl ?_
  refine ja_aload_n K 2 dW_714 rfl ?_
  refine ja_fcallVI K (wr := jlc q cI cZ cL (u9, g9)) [13, 14, 15, 16, 17, 18, 19, 20, 21, 22] [0, 1, 2, 3, 4, 5, 6, 7, 8, 9, 10, 11, 12] [0, 1] rfl rfl rfl rfl rfl (by decide) rfl (q0 := 0) (qc := (RX1, TX1, 16)) (st := []) [] (jd_thrown l D r cI cZ v9) (cwV 0 K.1.2.2.2.2 (gL_X1_thrown _) rfl rfl rfl (by decide +kernel) ⟨Nat.le_of_ble_eq_true rfl, Nat.le_of_ble_eq_true rfl⟩) rfl rfl rfl rfl rfl (Nat.le_of_ble_eq_true rfl) dW_715 ⟨by show 23 + k + 1 + 0 + 0 ≤ 1064; omega, by show 3094 + 6 * k + 6 + 0 + 0 ≤ 11388; omega⟩ (fun r7 v8 h7 => ?_)
  obtain ⟨rfl, rfl⟩ := h7
  refine ja_iload K 5 dW_718 rfl ?_
  rcases h9 with ⟨rfl, rr, hg, hP⟩ | ⟨kk, E, hm, rfl, hx⟩
  · obtain ⟨hc, ha, hux⟩ := hP
    have hEq : jmF v9 = nI 0 := h8.1.trans (by rw [hc]; rfl)
    have hrr : rr = r8 := ha.symm.trans (h8.2.1 hc)
    have hv9 := h8.2.2
    have hu9 : jxR1 S u9 := (show u = u9 from hux) ▸ hu
    refine ja_icmp_eq K (tgt := 725) True dW_720 (by decide) ⟨fun _ => trivial, fun _ => hEq⟩ (fun _ => ?_) (fun h9 => absurd trivial h9)
    refine ja_iload K 5 dW_725 rfl ?_
    refine ja_if_ne K (tgt := 742) False dW_727 (by decide) ⟨fun h9 => h9 (by decide), fun h9 => h9.elim⟩ (fun h9 => h9.elim) (fun _ => ?_)
    refine ja_aload_n K 3 dW_730 rfl ?_
    refine ja_iconst K (nI 0) dW_731 (by decide) ?_
    refine ja_lald K (v := g9 0) 0 2 rfl rfl 0 rfl (by decide) (by decide) rfl dW_732 ?_
    refine ja_iload K 6 dW_733 rfl ?_
    refine ja_i2l K (r8.toInt64) dW_735 rfl ?_
    refine ja_lcmp K 0 dW_736 (by rw [show g9 0 = rr.toInt64 from hg, hrr]; exact jcmp_self _) ?_
    refine ja_if_eq K (tgt := 742) True dW_737 (by decide) ⟨fun _ => trivial, fun _ => rfl⟩ (fun _ => ?_) (fun h9 => absurd trivial h9)
    refine ja_goto K (tgt := 1051) dW_742 (by decide) ?_
    refine ja_locals (lv1 := [(0, .ref b), (1, .ref (q 0)), (2, .ref (r 0)), (3, .ref (q 12)), (4, .int (nI (5 * k)))]) [0, 1, 2, 3, 4] rfl ?_
    exact ja_wide (23 + (k + 1)) (3094 + 6 * (k + 1)) (by show 23 + k + 1 + 0 + 0 ≤ _; omega) (by show 3094 + 6 * k + 6 + 0 + 0 ≤ _; omega) (hB S u9 v9 g9 hW hu9 hv9)
  · obtain ⟨hux, rfl, hc⟩ := hx
    have hkk : kk = 1 := by simpa using hm
    have hEq : jmF v9 = nI kk := h8.1.trans (by rw [hc, hkk]; rfl)
    have hv9 := h8.2.2
    have hu9 : jxR1 S u9 := (show u = u9 from hux) ▸ hu
    refine ja_icmp_eq K (tgt := 725) True dW_720 (by decide) ⟨fun _ => trivial, fun _ => hEq⟩ (fun _ => ?_) (fun h9 => absurd trivial h9)
    refine ja_iload K 5 dW_725 rfl ?_
    refine ja_if_ne K (tgt := 742) True dW_727 (by decide) ⟨fun _ => trivial, fun _ h9 => absurd ((nI_eq (a := kk) (b := 0) (by omega) (by omega)).mp h9) (by omega)⟩ (fun _ => ?_) (fun h9 => absurd trivial h9)
    refine ja_goto K (tgt := 1051) dW_742 (by decide) ?_
    refine ja_locals (lv1 := [(0, .ref b), (1, .ref (q 0)), (2, .ref (r 0)), (3, .ref (q 12)), (4, .int (nI (5 * k)))]) [0, 1, 2, 3, 4] rfl ?_
    exact ja_wide (23 + (k + 1)) (3094 + 6 * (k + 1)) (by show 23 + k + 1 + 0 + 0 ≤ _; omega) (by show 3094 + 6 * k + 6 + 0 + 0 ≤ _; omega) (hB S u9 v9 g9 hW hu9 hv9)
set_option maxRecDepth 100000 in
set_option maxHeartbeats 600000 in
theorem jw_meet {p : Program} {l : Launch} {e : Env} {s : State} {m : MethodId} {below : List Frame} {meth : Method} {c : Code} {b : Nat} {D : va_G} {cI cZ cL : ClassId} {q r : Nat → Nat} {k : Nat} {c0 : Cond} {N : Nat} {xs : Nat → Int32} (hst9 : l.stackTraces = false) (K : jaC p s m #[Value.ref b] meth c D vwCl (jLt cI cZ cL) code 7 (c0 :: jW0) RL ret (fun q9 => s.heap.size ≤ q9)) (hZ : jZL (fun q9 => s.heap.size ≤ q9) s) (hX : va_X b N xs s s.heap) (hbl : b < s.heap.size) (hN : N ≤ 2560) (hk : 5 * k + 5 ≤ N) (hB : jLB p l e s m below meth c b D cI cZ cL q r k) (S : JS) (u : JX) (v : JM) (g : Nat → Int64) (hW : jWf S) (hu : jxR1 S u) (hv : jmR1 S v) : jaW p l e room_1 s m #[Value.ref b] below meth c (23 + k) (3094 + 6 * k) (lw_Z below #[Value.ref b] s) D vwCl (fun q9 => s.heap.size ≤ q9) 7 (jlc q cI cZ cL (u, g) ++ jmc r cI cZ v) [(0, .ref b), (1, .ref (q 0)), (2, .ref (r 0)), (3, .ref (q 12)), (4, .int (nI (5 * k)))] 745 [] := by
  have hbA : ¬ s.heap.size ≤ b := by omega
  refine ja_aload_n K 1 dW_745 rfl ?_
  refine ja_aload_n K 0 dW_746 rfl ?_
  refine ja_iload K 4 dW_747 rfl ?_
  refine ja_iconst K (nI 1) dW_749 (by decide) ?_
  refine ja_iadd K (nI (5 * k + 1)) dW_750 (nI_add _ _) ?_
  refine ja_sld K hX hbl hbA (5 * k + 1) rfl (by omega) (by omega) dW_751 ?_
  refine ja_aload_n K 0 dW_752 rfl ?_
  refine ja_iload K 4 dW_753 rfl ?_
  refine ja_iconst K (nI 2) dW_755 (by decide) ?_
  refine ja_iadd K (nI (5 * k + 2)) dW_756 (nI_add _ _) ?_
  refine ja_sld K hX hbl hbA (5 * k + 2) rfl (by omega) (by omega) dW_757 ?_
  refine ja_aload_n K 0 dW_758 rfl ?_
  refine ja_iload K 4 dW_759 rfl ?_
  refine ja_iconst K (nI 3) dW_761 (by decide) ?_
  refine ja_iadd K (nI (5 * k + 3)) dW_762 (nI_add _ _) ?_
  refine ja_sld K hX hbl hbA (5 * k + 3) rfl (by omega) (by omega) dW_763 ?_
  refine ja_aload_n K 3 dW_764 rfl ?_
  refine ja_fcallSL K (hh := [(0, 12, 15, 21)]) (wr := jmc r cI cZ v) [0, 1, 2, 3, 4, 5, 6, 7, 8, 9, 10, 11, 12] [13, 14, 15, 16, 17, 18, 19, 20, 21, 22] [0, 1, 2] rfl rfl rfl rfl rfl (by decide) rfl (st := []) [.ref (q 0), .int (xs (5 * k + 1)), .int (xs (5 * k + 2)), .int (xs (5 * k + 3)), .ref (q 12)] (je_meet l hst9 D q cI cZ cL S u g hW hu (xs (5 * k + 1)) (xs (5 * k + 2)) (xs (5 * k + 3))) (vx_cwSW 5 K.1.2.2.2.2 (gL_L_meet _) rfl rfl rfl (by decide +kernel) ⟨Nat.le_of_ble_eq_true rfl, Nat.le_of_ble_eq_true rfl⟩) rfl rfl rfl (Nat.le_of_ble_eq_true rfl) dW_765 ⟨by show 23 + k + 1 ≤ 1064; omega, by show 3094 + 6 * k + 6 ≤ 11388; omega⟩ hZ (fun r9 z9 h9 => ?_)
  obtain ⟨u9, g9⟩ := z9
  refine ja_perm (ws1 := jlc q cI cZ cL (u9, g9) ++ jmc r cI cZ v) [10, 11, 12, 13, 14, 15, 16, 17, 18, 19, 20, 21, 22, 0, 1, 2, 3, 4, 5, 6, 7, 8, 9] rfl rfl rfl ?_
  refine ja_istore K (lv1 := [(0, .ref b), (1, .ref (q 0)), (2, .ref (r 0)), (3, .ref (q 12)), (4, .int (nI (5 * k))), (5, .int r9)]) dW_768 (by decide) rfl rfl ?_
  refine ja_aload_n K 2 dW_770 rfl ?_
  refine ja_aload_n K 0 dW_771 rfl ?_
  refine ja_iload K 4 dW_772 rfl ?_
  refine ja_iconst K (nI 1) dW_774 (by decide) ?_
  refine ja_iadd K (nI (5 * k + 1)) dW_775 (nI_add _ _) ?_
  refine ja_sld K hX hbl hbA (5 * k + 1) rfl (by omega) (by omega) dW_776 ?_
  refine ja_aload_n K 0 dW_777 rfl ?_
  refine ja_iload K 4 dW_778 rfl ?_
  refine ja_iconst K (nI 2) dW_780 (by decide) ?_
  refine ja_iadd K (nI (5 * k + 2)) dW_781 (nI_add _ _) ?_
  refine ja_sld K hX hbl hbA (5 * k + 2) rfl (by omega) (by omega) dW_782 ?_
  refine ja_aload_n K 0 dW_783 rfl ?_
  refine ja_iload K 4 dW_784 rfl ?_
  refine ja_iconst K (nI 3) dW_786 (by decide) ?_
  refine ja_iadd K (nI (5 * k + 3)) dW_787 (nI_add _ _) ?_
  refine ja_sld K hX hbl hbA (5 * k + 3) rfl (by omega) (by omega) dW_788 ?_
  refine ja_fcallVI K (wr := jlc q cI cZ cL (u9, g9)) [13, 14, 15, 16, 17, 18, 19, 20, 21, 22] [0, 1, 2, 3, 4, 5, 6, 7, 8, 9, 10, 11, 12] [0, 1] rfl rfl rfl rfl rfl (by decide) rfl (q0 := 0) (qc := (RX1, TX1, 16)) (st := []) [.int (xs (5 * k + 1)), .int (xs (5 * k + 2)), .int (xs (5 * k + 3))] (jd_meet l D r cI cZ S v hW hv (xs (5 * k + 1)) (xs (5 * k + 2)) (xs (5 * k + 3))) (cwV 3 K.1.2.2.2.2 (gL_X1_meet _) rfl rfl rfl (by decide +kernel) ⟨Nat.le_of_ble_eq_true rfl, Nat.le_of_ble_eq_true rfl⟩) rfl rfl rfl rfl rfl (Nat.le_of_ble_eq_true rfl) dW_789 ⟨by show 23 + k + 1 + 0 ≤ 1064; omega, by show 3094 + 6 * k + 6 + 0 ≤ 11388; omega⟩ (fun r8 v9 h8 => ?_)
  refine ja_istore K (lv1 := [(0, .ref b), (1, .ref (q 0)), (2, .ref (r 0)), (3, .ref (q 12)), (4, .int (nI (5 * k))), (5, .int r9), (6, .int r8)]) dW_792 (by decide) rfl rfl ?_
  refine ja_aload_n K 2 dW_794 rfl ?_
  refine ja_fcallVI K (wr := jlc q cI cZ cL (u9, g9)) [13, 14, 15, 16, 17, 18, 19, 20, 21, 22] [0, 1, 2, 3, 4, 5, 6, 7, 8, 9, 10, 11, 12] [0, 1] rfl rfl rfl rfl rfl (by decide) rfl (q0 := 0) (qc := (RX1, TX1, 16)) (st := []) [] (jd_thrown l D r cI cZ v9) (cwV 0 K.1.2.2.2.2 (gL_X1_thrown _) rfl rfl rfl (by decide +kernel) ⟨Nat.le_of_ble_eq_true rfl, Nat.le_of_ble_eq_true rfl⟩) rfl rfl rfl rfl rfl (Nat.le_of_ble_eq_true rfl) dW_795 ⟨by show 23 + k + 1 + 0 + 0 ≤ 1064; omega, by show 3094 + 6 * k + 6 + 0 + 0 ≤ 11388; omega⟩ (fun r7 v8 h7 => ?_)
  obtain ⟨rfl, rfl⟩ := h7
  refine ja_iload K 5 dW_798 rfl ?_
  rcases h9 with ⟨rfl, rr, hg, hP⟩ | ⟨kk, E, hm, rfl, hx⟩
  · obtain ⟨hc, ha, hux⟩ := hP
    have hEq : jmF v9 = nI 0 := h8.1.trans (by rw [hc]; rfl)
    have hrr : rr = r8 := ha.symm.trans (h8.2.1 hc)
    have hv9 := h8.2.2
    have hu9 : jxR1 S u9 := (show u = u9 from hux) ▸ hu
    refine ja_icmp_eq K (tgt := 805) True dW_800 (by decide) ⟨fun _ => trivial, fun _ => hEq⟩ (fun _ => ?_) (fun h9 => absurd trivial h9)
    refine ja_iload K 5 dW_805 rfl ?_
    refine ja_if_ne K (tgt := 822) False dW_807 (by decide) ⟨fun h9 => h9 (by decide), fun h9 => h9.elim⟩ (fun h9 => h9.elim) (fun _ => ?_)
    refine ja_aload_n K 3 dW_810 rfl ?_
    refine ja_iconst K (nI 0) dW_811 (by decide) ?_
    refine ja_lald K (v := g9 0) 0 2 rfl rfl 0 rfl (by decide) (by decide) rfl dW_812 ?_
    refine ja_iload K 6 dW_813 rfl ?_
    refine ja_i2l K (r8.toInt64) dW_815 rfl ?_
    refine ja_lcmp K 0 dW_816 (by rw [show g9 0 = rr.toInt64 from hg, hrr]; exact jcmp_self _) ?_
    refine ja_if_eq K (tgt := 822) True dW_817 (by decide) ⟨fun _ => trivial, fun _ => rfl⟩ (fun _ => ?_) (fun h9 => absurd trivial h9)
    refine ja_goto K (tgt := 1051) dW_822 (by decide) ?_
    refine ja_locals (lv1 := [(0, .ref b), (1, .ref (q 0)), (2, .ref (r 0)), (3, .ref (q 12)), (4, .int (nI (5 * k)))]) [0, 1, 2, 3, 4] rfl ?_
    exact ja_wide (23 + (k + 1)) (3094 + 6 * (k + 1)) (by show 23 + k + 1 + 0 + 0 ≤ _; omega) (by show 3094 + 6 * k + 6 + 0 + 0 ≤ _; omega) (hB S u9 v9 g9 hW hu9 hv9)
  · obtain ⟨hux, rfl, hc⟩ := hx
    have hkk : kk = 1 := by simpa using hm
    have hEq : jmF v9 = nI kk := h8.1.trans (by rw [hc, hkk]; rfl)
    have hv9 := h8.2.2
    have hu9 : jxR1 S u9 := (show u = u9 from hux) ▸ hu
    refine ja_icmp_eq K (tgt := 805) True dW_800 (by decide) ⟨fun _ => trivial, fun _ => hEq⟩ (fun _ => ?_) (fun h9 => absurd trivial h9)
    refine ja_iload K 5 dW_805 rfl ?_
    refine ja_if_ne K (tgt := 822) True dW_807 (by decide) ⟨fun _ => trivial, fun _ h9 => absurd ((nI_eq (a := kk) (b := 0) (by omega) (by omega)).mp h9) (by omega)⟩ (fun _ => ?_) (fun h9 => absurd trivial h9)
    refine ja_goto K (tgt := 1051) dW_822 (by decide) ?_
    refine ja_locals (lv1 := [(0, .ref b), (1, .ref (q 0)), (2, .ref (r 0)), (3, .ref (q 12)), (4, .int (nI (5 * k)))]) [0, 1, 2, 3, 4] rfl ?_
    exact ja_wide (23 + (k + 1)) (3094 + 6 * (k + 1)) (by show 23 + k + 1 + 0 + 0 ≤ _; omega) (by show 3094 + 6 * k + 6 + 0 + 0 ≤ _; omega) (hB S u9 v9 g9 hW hu9 hv9)
set_option maxRecDepth 100000 in
set_option maxHeartbeats 600000 in
theorem jw_cut {p : Program} {l : Launch} {e : Env} {s : State} {m : MethodId} {below : List Frame} {meth : Method} {c : Code} {b : Nat} {D : va_G} {cI cZ cL : ClassId} {q r : Nat → Nat} {k : Nat} {c0 : Cond} {N : Nat} {xs : Nat → Int32} (hst9 : l.stackTraces = false) (K : jaC p s m #[Value.ref b] meth c D vwCl (jLt cI cZ cL) code 7 (c0 :: jW0) RL ret (fun q9 => s.heap.size ≤ q9)) (hZ : jZL (fun q9 => s.heap.size ≤ q9) s) (hX : va_X b N xs s s.heap) (hbl : b < s.heap.size) (hN : N ≤ 2560) (hk : 5 * k + 5 ≤ N) (hB : jLB p l e s m below meth c b D cI cZ cL q r k) (S : JS) (u : JX) (v : JM) (g : Nat → Int64) (hW : jWf S) (hu : jxR1 S u) (hv : jmR1 S v) : jaW p l e room_1 s m #[Value.ref b] below meth c (23 + k) (3094 + 6 * k) (lw_Z below #[Value.ref b] s) D vwCl (fun q9 => s.heap.size ≤ q9) 7 (jlc q cI cZ cL (u, g) ++ jmc r cI cZ v) [(0, .ref b), (1, .ref (q 0)), (2, .ref (r 0)), (3, .ref (q 12)), (4, .int (nI (5 * k)))] 838 [] := by
  have hbA : ¬ s.heap.size ≤ b := by omega
  refine ja_aload_n K 1 dW_838 rfl ?_
  refine ja_aload_n K 0 dW_839 rfl ?_
  refine ja_iload K 4 dW_840 rfl ?_
  refine ja_iconst K (nI 1) dW_842 (by decide) ?_
  refine ja_iadd K (nI (5 * k + 1)) dW_843 (nI_add _ _) ?_
  refine ja_sld K hX hbl hbA (5 * k + 1) rfl (by omega) (by omega) dW_844 ?_
  refine ja_aload_n K 3 dW_845 rfl ?_
  refine ja_fcallSL K (hh := [(0, 9, 12, 21)]) (wr := jmc r cI cZ v) [0, 1, 2, 3, 4, 5, 6, 7, 8, 9, 10, 11, 12] [13, 14, 15, 16, 17, 18, 19, 20, 21, 22] [0, 1, 2] rfl rfl rfl rfl rfl (by decide) rfl (st := []) [.ref (q 0), .int (xs (5 * k + 1)), .ref (q 12)] (je_cut l hst9 D q cI cZ cL S u g hW hu (xs (5 * k + 1))) (vx_cwSW 3 K.1.2.2.2.2 (gL_L_cut _) rfl rfl rfl (by decide +kernel) ⟨Nat.le_of_ble_eq_true rfl, Nat.le_of_ble_eq_true rfl⟩) rfl rfl rfl (Nat.le_of_ble_eq_true rfl) dW_846 ⟨by show 23 + k + 1 ≤ 1064; omega, by show 3094 + 6 * k + 6 ≤ 11388; omega⟩ hZ (fun r9 z9 h9 => ?_)
  obtain ⟨u9, g9⟩ := z9
  refine ja_perm (ws1 := jlc q cI cZ cL (u9, g9) ++ jmc r cI cZ v) [10, 11, 12, 13, 14, 15, 16, 17, 18, 19, 20, 21, 22, 0, 1, 2, 3, 4, 5, 6, 7, 8, 9] rfl rfl rfl ?_
  refine ja_istore K (lv1 := [(0, .ref b), (1, .ref (q 0)), (2, .ref (r 0)), (3, .ref (q 12)), (4, .int (nI (5 * k))), (5, .int r9)]) dW_849 (by decide) rfl rfl ?_
  refine ja_aload_n K 2 dW_851 rfl ?_
  refine ja_aload_n K 0 dW_852 rfl ?_
  refine ja_iload K 4 dW_853 rfl ?_
  refine ja_iconst K (nI 1) dW_855 (by decide) ?_
  refine ja_iadd K (nI (5 * k + 1)) dW_856 (nI_add _ _) ?_
  refine ja_sld K hX hbl hbA (5 * k + 1) rfl (by omega) (by omega) dW_857 ?_
  refine ja_fcallVI K (wr := jlc q cI cZ cL (u9, g9)) [13, 14, 15, 16, 17, 18, 19, 20, 21, 22] [0, 1, 2, 3, 4, 5, 6, 7, 8, 9, 10, 11, 12] [0, 1] rfl rfl rfl rfl rfl (by decide) rfl (q0 := 0) (qc := (RX1, TX1, 16)) (st := []) [.int (xs (5 * k + 1))] (jd_cut l D r cI cZ S v hW hv (xs (5 * k + 1))) (cwV 1 K.1.2.2.2.2 (gL_X1_cut _) rfl rfl rfl (by decide +kernel) ⟨Nat.le_of_ble_eq_true rfl, Nat.le_of_ble_eq_true rfl⟩) rfl rfl rfl rfl rfl (Nat.le_of_ble_eq_true rfl) dW_858 ⟨by show 23 + k + 1 + 0 ≤ 1064; omega, by show 3094 + 6 * k + 6 + 0 ≤ 11388; omega⟩ (fun r8 v9 h8 => ?_)
  refine ja_istore K (lv1 := [(0, .ref b), (1, .ref (q 0)), (2, .ref (r 0)), (3, .ref (q 12)), (4, .int (nI (5 * k))), (5, .int r9), (6, .int r8)]) dW_861 (by decide) rfl rfl ?_
  refine ja_aload_n K 2 dW_863 rfl ?_
  refine ja_fcallVI K (wr := jlc q cI cZ cL (u9, g9)) [13, 14, 15, 16, 17, 18, 19, 20, 21, 22] [0, 1, 2, 3, 4, 5, 6, 7, 8, 9, 10, 11, 12] [0, 1] rfl rfl rfl rfl rfl (by decide) rfl (q0 := 0) (qc := (RX1, TX1, 16)) (st := []) [] (jd_thrown l D r cI cZ v9) (cwV 0 K.1.2.2.2.2 (gL_X1_thrown _) rfl rfl rfl (by decide +kernel) ⟨Nat.le_of_ble_eq_true rfl, Nat.le_of_ble_eq_true rfl⟩) rfl rfl rfl rfl rfl (Nat.le_of_ble_eq_true rfl) dW_864 ⟨by show 23 + k + 1 + 0 + 0 ≤ 1064; omega, by show 3094 + 6 * k + 6 + 0 + 0 ≤ 11388; omega⟩ (fun r7 v8 h7 => ?_)
  obtain ⟨rfl, rfl⟩ := h7
  refine ja_iload K 5 dW_867 rfl ?_
  rcases h9 with ⟨rfl, rr, hg, hP⟩ | ⟨kk, E, hm, rfl, hx⟩
  · obtain ⟨⟨x0, hc, ha⟩, hux⟩ := hP
    have hEq : jmF v9 = nI 0 := h8.1.trans (by rw [hc]; rfl)
    have hrr : rr = r8 := ha.symm.trans (h8.2.1 x0 hc)
    have hv9 := h8.2.2
    have hu9 : jxR1 S u9 := (show u = u9 from hux) ▸ hu
    refine ja_icmp_eq K (tgt := 874) True dW_869 (by decide) ⟨fun _ => trivial, fun _ => hEq⟩ (fun _ => ?_) (fun h9 => absurd trivial h9)
    refine ja_iload K 5 dW_874 rfl ?_
    refine ja_if_ne K (tgt := 891) False dW_876 (by decide) ⟨fun h9 => h9 (by decide), fun h9 => h9.elim⟩ (fun h9 => h9.elim) (fun _ => ?_)
    refine ja_aload_n K 3 dW_879 rfl ?_
    refine ja_iconst K (nI 0) dW_880 (by decide) ?_
    refine ja_lald K (v := g9 0) 0 2 rfl rfl 0 rfl (by decide) (by decide) rfl dW_881 ?_
    refine ja_iload K 6 dW_882 rfl ?_
    refine ja_i2l K (r8.toInt64) dW_884 rfl ?_
    refine ja_lcmp K 0 dW_885 (by rw [show g9 0 = rr.toInt64 from hg, hrr]; exact jcmp_self _) ?_
    refine ja_if_eq K (tgt := 891) True dW_886 (by decide) ⟨fun _ => trivial, fun _ => rfl⟩ (fun _ => ?_) (fun h9 => absurd trivial h9)
    refine ja_goto K (tgt := 1051) dW_891 (by decide) ?_
    refine ja_locals (lv1 := [(0, .ref b), (1, .ref (q 0)), (2, .ref (r 0)), (3, .ref (q 12)), (4, .int (nI (5 * k)))]) [0, 1, 2, 3, 4] rfl ?_
    exact ja_wide (23 + (k + 1)) (3094 + 6 * (k + 1)) (by show 23 + k + 1 + 0 + 0 ≤ _; omega) (by show 3094 + 6 * k + 6 + 0 + 0 ≤ _; omega) (hB S u9 v9 g9 hW hu9 hv9)
  · obtain ⟨hux, rfl, hc⟩ := hx
    have hkk : kk = 1 := by simpa using hm
    have hEq : jmF v9 = nI kk := h8.1.trans (by rw [hc, hkk]; rfl)
    have hv9 := h8.2.2
    have hu9 : jxR1 S u9 := (show u = u9 from hux) ▸ hu
    refine ja_icmp_eq K (tgt := 874) True dW_869 (by decide) ⟨fun _ => trivial, fun _ => hEq⟩ (fun _ => ?_) (fun h9 => absurd trivial h9)
    refine ja_iload K 5 dW_874 rfl ?_
    refine ja_if_ne K (tgt := 891) True dW_876 (by decide) ⟨fun _ => trivial, fun _ h9 => absurd ((nI_eq (a := kk) (b := 0) (by omega) (by omega)).mp h9) (by omega)⟩ (fun _ => ?_) (fun h9 => absurd trivial h9)
    refine ja_goto K (tgt := 1051) dW_891 (by decide) ?_
    refine ja_locals (lv1 := [(0, .ref b), (1, .ref (q 0)), (2, .ref (r 0)), (3, .ref (q 12)), (4, .int (nI (5 * k)))]) [0, 1, 2, 3, 4] rfl ?_
    exact ja_wide (23 + (k + 1)) (3094 + 6 * (k + 1)) (by show 23 + k + 1 + 0 + 0 ≤ _; omega) (by show 3094 + 6 * k + 6 + 0 + 0 ≤ _; omega) (hB S u9 v9 g9 hW hu9 hv9)
set_option maxRecDepth 100000 in
set_option maxHeartbeats 600000 in
theorem jw_letter {p : Program} {l : Launch} {e : Env} {s : State} {m : MethodId} {below : List Frame} {meth : Method} {c : Code} {b : Nat} {D : va_G} {cI cZ cL : ClassId} {q r : Nat → Nat} {k : Nat} {c0 : Cond} {N : Nat} {xs : Nat → Int32} (hst9 : l.stackTraces = false) (K : jaC p s m #[Value.ref b] meth c D vwCl (jLt cI cZ cL) code 7 (c0 :: jW0) RL ret (fun q9 => s.heap.size ≤ q9)) (hZ : jZL (fun q9 => s.heap.size ≤ q9) s) (hX : va_X b N xs s s.heap) (hbl : b < s.heap.size) (hN : N ≤ 2560) (hk : 5 * k + 5 ≤ N) (hB : jLB p l e s m below meth c b D cI cZ cL q r k) (S : JS) (u : JX) (v : JM) (g : Nat → Int64) (hW : jWf S) (hu : jxR1 S u) (hv : jmR1 S v) : jaW p l e room_1 s m #[Value.ref b] below meth c (23 + k) (3094 + 6 * k) (lw_Z below #[Value.ref b] s) D vwCl (fun q9 => s.heap.size ≤ q9) 7 (jlc q cI cZ cL (u, g) ++ jmc r cI cZ v) [(0, .ref b), (1, .ref (q 0)), (2, .ref (r 0)), (3, .ref (q 12)), (4, .int (nI (5 * k)))] 894 [] := by
  have hbA : ¬ s.heap.size ≤ b := by omega
  refine ja_aload_n K 1 dW_894 rfl ?_
  refine ja_aload_n K 0 dW_895 rfl ?_
  refine ja_iload K 4 dW_896 rfl ?_
  refine ja_iconst K (nI 1) dW_898 (by decide) ?_
  refine ja_iadd K (nI (5 * k + 1)) dW_899 (nI_add _ _) ?_
  refine ja_sld K hX hbl hbA (5 * k + 1) rfl (by omega) (by omega) dW_900 ?_
  refine ja_aload_n K 0 dW_901 rfl ?_
  refine ja_iload K 4 dW_902 rfl ?_
  refine ja_iconst K (nI 2) dW_904 (by decide) ?_
  refine ja_iadd K (nI (5 * k + 2)) dW_905 (nI_add _ _) ?_
  refine ja_sld K hX hbl hbA (5 * k + 2) rfl (by omega) (by omega) dW_906 ?_
  refine ja_aload_n K 3 dW_907 rfl ?_
  refine ja_fcallSL K (hh := [(0, 10, 13, 21)]) (wr := jmc r cI cZ v) [0, 1, 2, 3, 4, 5, 6, 7, 8, 9, 10, 11, 12] [13, 14, 15, 16, 17, 18, 19, 20, 21, 22] [0, 1, 2] rfl rfl rfl rfl rfl (by decide) rfl (st := []) [.ref (q 0), .int (xs (5 * k + 1)), .int (xs (5 * k + 2)), .ref (q 12)] (je_letter l hst9 D q cI cZ cL S u g hW hu (xs (5 * k + 1)) (xs (5 * k + 2))) (vx_cwSW 4 K.1.2.2.2.2 (gL_L_letter _) rfl rfl rfl (by decide +kernel) ⟨Nat.le_of_ble_eq_true rfl, Nat.le_of_ble_eq_true rfl⟩) rfl rfl rfl (Nat.le_of_ble_eq_true rfl) dW_908 ⟨by show 23 + k + 1 ≤ 1064; omega, by show 3094 + 6 * k + 6 ≤ 11388; omega⟩ hZ (fun r9 z9 h9 => ?_)
  obtain ⟨u9, g9⟩ := z9
  refine ja_perm (ws1 := jlc q cI cZ cL (u9, g9) ++ jmc r cI cZ v) [10, 11, 12, 13, 14, 15, 16, 17, 18, 19, 20, 21, 22, 0, 1, 2, 3, 4, 5, 6, 7, 8, 9] rfl rfl rfl ?_
  refine ja_istore K (lv1 := [(0, .ref b), (1, .ref (q 0)), (2, .ref (r 0)), (3, .ref (q 12)), (4, .int (nI (5 * k))), (5, .int r9)]) dW_911 (by decide) rfl rfl ?_
  refine ja_aload_n K 2 dW_913 rfl ?_
  refine ja_aload_n K 0 dW_914 rfl ?_
  refine ja_iload K 4 dW_915 rfl ?_
  refine ja_iconst K (nI 1) dW_917 (by decide) ?_
  refine ja_iadd K (nI (5 * k + 1)) dW_918 (nI_add _ _) ?_
  refine ja_sld K hX hbl hbA (5 * k + 1) rfl (by omega) (by omega) dW_919 ?_
  refine ja_aload_n K 0 dW_920 rfl ?_
  refine ja_iload K 4 dW_921 rfl ?_
  refine ja_iconst K (nI 2) dW_923 (by decide) ?_
  refine ja_iadd K (nI (5 * k + 2)) dW_924 (nI_add _ _) ?_
  refine ja_sld K hX hbl hbA (5 * k + 2) rfl (by omega) (by omega) dW_925 ?_
  refine ja_fcallVI K (wr := jlc q cI cZ cL (u9, g9)) [13, 14, 15, 16, 17, 18, 19, 20, 21, 22] [0, 1, 2, 3, 4, 5, 6, 7, 8, 9, 10, 11, 12] [0, 1] rfl rfl rfl rfl rfl (by decide) rfl (q0 := 0) (qc := (RX1, TX1, 16)) (st := []) [.int (xs (5 * k + 1)), .int (xs (5 * k + 2))] (jd_letter l D r cI cZ S v hW hv (xs (5 * k + 1)) (xs (5 * k + 2))) (cwV 2 K.1.2.2.2.2 (gL_X1_letter _) rfl rfl rfl (by decide +kernel) ⟨Nat.le_of_ble_eq_true rfl, Nat.le_of_ble_eq_true rfl⟩) rfl rfl rfl rfl rfl (Nat.le_of_ble_eq_true rfl) dW_926 ⟨by show 23 + k + 1 + 0 ≤ 1064; omega, by show 3094 + 6 * k + 6 + 0 ≤ 11388; omega⟩ (fun r8 v9 h8 => ?_)
  refine ja_istore K (lv1 := [(0, .ref b), (1, .ref (q 0)), (2, .ref (r 0)), (3, .ref (q 12)), (4, .int (nI (5 * k))), (5, .int r9), (6, .int r8)]) dW_929 (by decide) rfl rfl ?_
  refine ja_aload_n K 2 dW_931 rfl ?_
  refine ja_fcallVI K (wr := jlc q cI cZ cL (u9, g9)) [13, 14, 15, 16, 17, 18, 19, 20, 21, 22] [0, 1, 2, 3, 4, 5, 6, 7, 8, 9, 10, 11, 12] [0, 1] rfl rfl rfl rfl rfl (by decide) rfl (q0 := 0) (qc := (RX1, TX1, 16)) (st := []) [] (jd_thrown l D r cI cZ v9) (cwV 0 K.1.2.2.2.2 (gL_X1_thrown _) rfl rfl rfl (by decide +kernel) ⟨Nat.le_of_ble_eq_true rfl, Nat.le_of_ble_eq_true rfl⟩) rfl rfl rfl rfl rfl (Nat.le_of_ble_eq_true rfl) dW_932 ⟨by show 23 + k + 1 + 0 + 0 ≤ 1064; omega, by show 3094 + 6 * k + 6 + 0 + 0 ≤ 11388; omega⟩ (fun r7 v8 h7 => ?_)
  obtain ⟨rfl, rfl⟩ := h7
  refine ja_iload K 5 dW_935 rfl ?_
  rcases h9 with ⟨rfl, rr, hg, hP⟩ | ⟨kk, E, hm, rfl, hx⟩
  · obtain ⟨hc, ha, hux⟩ := hP
    have hEq : jmF v9 = nI 0 := h8.1.trans (by rw [hc]; rfl)
    have hrr : rr = r8 := ha.symm.trans (h8.2.1 hc)
    have hv9 := h8.2.2
    have hu9 : jxR1 S u9 := (show u = u9 from hux) ▸ hu
    refine ja_icmp_eq K (tgt := 942) True dW_937 (by decide) ⟨fun _ => trivial, fun _ => hEq⟩ (fun _ => ?_) (fun h9 => absurd trivial h9)
    refine ja_iload K 5 dW_942 rfl ?_
    refine ja_if_ne K (tgt := 959) False dW_944 (by decide) ⟨fun h9 => h9 (by decide), fun h9 => h9.elim⟩ (fun h9 => h9.elim) (fun _ => ?_)
    refine ja_aload_n K 3 dW_947 rfl ?_
    refine ja_iconst K (nI 0) dW_948 (by decide) ?_
    refine ja_lald K (v := g9 0) 0 2 rfl rfl 0 rfl (by decide) (by decide) rfl dW_949 ?_
    refine ja_iload K 6 dW_950 rfl ?_
    refine ja_i2l K (r8.toInt64) dW_952 rfl ?_
    refine ja_lcmp K 0 dW_953 (by rw [show g9 0 = rr.toInt64 from hg, hrr]; exact jcmp_self _) ?_
    refine ja_if_eq K (tgt := 959) True dW_954 (by decide) ⟨fun _ => trivial, fun _ => rfl⟩ (fun _ => ?_) (fun h9 => absurd trivial h9)
    refine ja_goto K (tgt := 1051) dW_959 (by decide) ?_
    refine ja_locals (lv1 := [(0, .ref b), (1, .ref (q 0)), (2, .ref (r 0)), (3, .ref (q 12)), (4, .int (nI (5 * k)))]) [0, 1, 2, 3, 4] rfl ?_
    exact ja_wide (23 + (k + 1)) (3094 + 6 * (k + 1)) (by show 23 + k + 1 + 0 + 0 ≤ _; omega) (by show 3094 + 6 * k + 6 + 0 + 0 ≤ _; omega) (hB S u9 v9 g9 hW hu9 hv9)
  · obtain ⟨hux, rfl, hc⟩ := hx
    have hkk : kk = 1 := by simpa using hm
    have hEq : jmF v9 = nI kk := h8.1.trans (by rw [hc, hkk]; rfl)
    have hv9 := h8.2.2
    have hu9 : jxR1 S u9 := (show u = u9 from hux) ▸ hu
    refine ja_icmp_eq K (tgt := 942) True dW_937 (by decide) ⟨fun _ => trivial, fun _ => hEq⟩ (fun _ => ?_) (fun h9 => absurd trivial h9)
    refine ja_iload K 5 dW_942 rfl ?_
    refine ja_if_ne K (tgt := 959) True dW_944 (by decide) ⟨fun _ => trivial, fun _ h9 => absurd ((nI_eq (a := kk) (b := 0) (by omega) (by omega)).mp h9) (by omega)⟩ (fun _ => ?_) (fun h9 => absurd trivial h9)
    refine ja_goto K (tgt := 1051) dW_959 (by decide) ?_
    refine ja_locals (lv1 := [(0, .ref b), (1, .ref (q 0)), (2, .ref (r 0)), (3, .ref (q 12)), (4, .int (nI (5 * k)))]) [0, 1, 2, 3, 4] rfl ?_
    exact ja_wide (23 + (k + 1)) (3094 + 6 * (k + 1)) (by show 23 + k + 1 + 0 + 0 ≤ _; omega) (by show 3094 + 6 * k + 6 + 0 + 0 ≤ _; omega) (hB S u9 v9 g9 hW hu9 hv9)
