theorem jlw_cmp {N k : Nat} (h1 : N ≤ 2560) (h2 : 5 * k ≤ N) : (nI N - nI 5 < nI (5 * k)) ↔ N < 5 * k + 5 := by
  by_cases q : 5 ≤ N
  · rw [pk_sub q, nI_ltI (by omega) (by omega)]
    omega
  · obtain rfl : k = 0 := by omega
    rcases (by omega : N = 0 ∨ N = 1 ∨ N = 2 ∨ N = 3 ∨ N = 4) with rfl | rfl | rfl | rfl | rfl <;> decide
theorem jsw18 (z : Int32) : (∃ j, j < 18 ∧ z = nI j) ∨ (z.toInt < 0 ∨ 17 < z.toInt) := by
  rcases pk_ix z (n := 18) (by omega) with h | h | h
  · refine Or.inr (Or.inl ?_)
    have := Int32.lt_iff_toInt_lt.mp h
    simpa using this
  · refine Or.inr (Or.inr ?_)
    have := Int32.le_iff_toInt_le.mp h
    rw [nI_toInt (by omega)] at this
    omega
  · exact Or.inl h
set_option maxRecDepth 100000 in
set_option maxHeartbeats 600000 in
theorem jw_loop {p : Program} {l : Launch} {e : Env} {s : State} {m : MethodId} {below : List Frame} {meth : Method} {c : Code} {b : Nat} {D : va_G} {cI cZ cL : ClassId} {q r : Nat → Nat} {c0 : Cond} {N : Nat} {xs : Nat → Int32} (hst9 : l.stackTraces = false) (K : jaC p s m #[Value.ref b] meth c D vwCl (jLt cI cZ cL) code 7 (c0 :: jW0) RL ret (fun q9 => s.heap.size ≤ q9)) (hZ : jZL (fun q9 => s.heap.size ≤ q9) s) (hX : va_X b N xs s s.heap) (hbl : b < s.heap.size) (hN : N ≤ 2560) : ∀ k : Nat, 5 * k ≤ N → ∀ (S : JS) (u : JX) (v : JM) (g : Nat → Int64), jWf S → jxR1 S u → jmR1 S v → jaW p l e room_1 s m #[Value.ref b] below meth c (23 + k) (3094 + 6 * k) (lw_Z below #[Value.ref b] s) D vwCl (fun q9 => s.heap.size ≤ q9) 7 (jlc q cI cZ cL (u, g) ++ jmc r cI cZ v) [(0, .ref b), (1, .ref (q 0)), (2, .ref (r 0)), (3, .ref (q 12)), (4, .int (nI (5 * k)))] 23 [] := by
  have hbA : ¬ s.heap.size ≤ b := by omega
  refine jl_1 (fun k => N - 5 * k) (fun k => 5 * k ≤ N) _ ?_
  intro k hk IH S u v g hW hu hv
  refine ja_iload K 4 dW_23 rfl ?_
  refine ja_aload_n K 0 dW_25 rfl ?_
  refine ja_slen K hX hbl hbA dW_26 ?_
  refine ja_iconst K (nI 5) dW_27 (by decide) ?_
  refine ja_isub K (nI N - nI 5) dW_28 rfl ?_
  refine ja_icmp_gt K (tgt := 1057) (N < 5 * k + 5) dW_29 (by decide) (jlw_cmp hN hk) (fun h7 => ?_) (fun h7 => ?_)
  · refine ja_iconst K 1 dW_1057 (by decide) ?_
    exact ja_lawend K (by omega) (by omega) dW_1058
  · refine ja_aload_n K 0 dW_32 rfl ?_
    refine ja_iload K 4 dW_33 rfl ?_
    refine ja_sld K hX hbl hbA (5 * k) rfl (by omega) (by omega) dW_35 ?_
    refine ja_bipush K (nI 31) dW_36 (by decide) ?_
    refine ja_iand K (xs (5 * k) &&& nI 31) dW_38 rfl ?_
    have hk5 : 5 * k + 5 ≤ N := by omega
    have hB : jLB p l e s m below meth c b D cI cZ cL q r k := fun S u v g hW hu hv => by
      refine ja_iinc K (lv1 := [(0, .ref b), (1, .ref (q 0)), (2, .ref (r 0)), (3, .ref (q 12)), (4, .int (nI (5 * (k + 1))))]) 4 (nI (5 * (k + 1))) dW_1051 rfl (show nI (5 * k) + nI 5 = nI (5 * (k + 1)) by rw [nI_add]; rfl) (by decide) rfl rfl ?_
      refine ja_goto K (tgt := 23) dW_1054 (by decide) ?_
      exact IH (k + 1) (by omega) (by omega) S u v g hW hu hv
    rcases jsw18 (xs (5 * k) &&& nI 31) with ⟨j, hj, e9⟩ | hz
    · rw [e9]
      rcases (by omega : j = 0 ∨ j = 1 ∨ j = 2 ∨ j = 3 ∨ j = 4 ∨ j = 5 ∨ j = 6 ∨ j = 7 ∨ j = 8 ∨ j = 9 ∨ j = 10 ∨ j = 11 ∨ j = 12 ∨ j = 13 ∨ j = 14 ∨ j = 15 ∨ j = 16 ∨ j = 17) with rfl | rfl | rfl | rfl | rfl | rfl | rfl | rfl | rfl | rfl | rfl | rfl | rfl | rfl | rfl | rfl | rfl | rfl
      · exact ja_tableIn K (off := 85) (tgt := 124) dW_39 (by decide) (by decide) (by decide) (by decide) (jw_node hst9 K hZ hX hbl hN hk5 hB S u v g hW hu hv (decide (¬ xs (5 * k + 2) = 0)) (by simp))
      · exact ja_tableIn K (off := 169) (tgt := 208) dW_39 (by decide) (by decide) (by decide) (by decide) (jw_join hst9 K hZ hX hbl hN hk5 hB S u v g hW hu hv)
      · exact ja_tableIn K (off := 261) (tgt := 300) dW_39 (by decide) (by decide) (by decide) (by decide) (jw_part hst9 K hZ hX hbl hN hk5 hB S u v g hW hu hv)
      · exact ja_tableIn K (off := 341) (tgt := 380) dW_39 (by decide) (by decide) (by decide) (by decide) (jw_site hst9 K hZ hX hbl hN hk5 hB S u v g hW hu hv)
      · exact ja_tableIn K (off := 409) (tgt := 448) dW_39 (by decide) (by decide) (by decide) (by decide) (jw_mutate hst9 K hZ hX hbl hN hk5 hB S u v g hW hu hv)
      · exact ja_tableIn K (off := 489) (tgt := 528) dW_39 (by decide) (by decide) (by decide) (by decide) (jw_count hst9 K hZ hX hbl hN hk5 hB S u v g hW hu hv)
      · exact ja_tableIn K (off := 514) (tgt := 553) dW_39 (by decide) (by decide) (by decide) (by decide) (jw_time hst9 K hZ hX hbl hN hk5 hB S u v g hW hu hv)
      · exact ja_tableIn K (off := 570) (tgt := 609) dW_39 (by decide) (by decide) (by decide) (by decide) (jw_edge hst9 K hZ hX hbl hN hk5 hB S u v g hW hu hv)
      · exact ja_tableIn K (off := 638) (tgt := 677) dW_39 (by decide) (by decide) (by decide) (by decide) (jw_parent hst9 K hZ hX hbl hN hk5 hB S u v g hW hu hv)
      · exact ja_tableIn K (off := 706) (tgt := 745) dW_39 (by decide) (by decide) (by decide) (by decide) (jw_meet hst9 K hZ hX hbl hN hk5 hB S u v g hW hu hv)
      · exact ja_tableIn K (off := 786) (tgt := 825) dW_39 (by decide) (by decide) (by decide) (by decide) (jw_trees hst9 K hZ hX hbl hN hk5 hB S u v g hW hu hv)
      · exact ja_tableIn K (off := 799) (tgt := 838) dW_39 (by decide) (by decide) (by decide) (by decide) (jw_cut hst9 K hZ hX hbl hN hk5 hB S u v g hW hu hv)
      · exact ja_tableIn K (off := 855) (tgt := 894) dW_39 (by decide) (by decide) (by decide) (by decide) (jw_letter hst9 K hZ hX hbl hN hk5 hB S u v g hW hu hv)
      · exact ja_tableIn K (off := 923) (tgt := 962) dW_39 (by decide) (by decide) (by decide) (by decide) (jw_differing hst9 K hZ hX hbl hN hk5 hB S u v g hW hu hv)
      · exact ja_tableIn K (off := 936) (tgt := 975) dW_39 (by decide) (by decide) (by decide) (by decide) (jw_spectrum hst9 K hZ hX hbl hN hk5 hB S u v g hW hu hv)
      · exact ja_tableIn K (off := 961) (tgt := 1000) dW_39 (by decide) (by decide) (by decide) (by decide) (jw_area hst9 K hZ hX hbl hN hk5 hB S u v g hW hu hv)
      · exact ja_tableIn K (off := 974) (tgt := 1013) dW_39 (by decide) (by decide) (by decide) (by decide) (jw_simplify hst9 K hZ hX hbl hN hk5 hB S u v g hW hu hv)
      · exact ja_tableIn K (off := 987) (tgt := 1026) dW_39 (by decide) (by decide) (by decide) (by decide) (jw_became hst9 K hZ hX hbl hN hk5 hB S u v g hW hu hv)
    · exact ja_tableOut K (tgt := 1051) dW_39 hz (by decide) (ja_wide (23 + (k + 1)) (3094 + 6 * (k + 1)) (by omega) (by omega) (hB S u v g hW hu hv))
