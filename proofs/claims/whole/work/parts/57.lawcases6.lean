set_option maxRecDepth 100000 in
set_option maxHeartbeats 600000 in
theorem jw_node {p : Program} {l : Launch} {e : Env} {s : State} {m : MethodId} {below : List Frame} {meth : Method} {c : Code} {b : Nat} {D : va_G} {cI cZ cL : ClassId} {q r : Nat → Nat} {k : Nat} {c0 : Cond} {N : Nat} {xs : Nat → Int32} (hst9 : l.stackTraces = false) (K : jaC p s m #[Value.ref b] meth c D vwCl (jLt cI cZ cL) code 7 (c0 :: jW0) RL ret (fun q9 => s.heap.size ≤ q9)) (hZ : jZL (fun q9 => s.heap.size ≤ q9) s) (hX : va_X b N xs s s.heap) (hbl : b < s.heap.size) (hN : N ≤ 2560) (hk : 5 * k + 5 ≤ N) (hB : jLB p l e s m below meth c b D cI cZ cL q r k) (S : JS) (u : JX) (v : JM) (g : Nat → Int64) (hW : jWf S) (hu : jxR1 S u) (hv : jmR1 S v) (b9 : Bool) (hb9 : xs (5 * k + 2) = 0 ↔ b9 = false) : jaW p l e room_1 s m #[Value.ref b] below meth c (23 + k) (3094 + 6 * k) (lw_Z below #[Value.ref b] s) D vwCl (fun q9 => s.heap.size ≤ q9) 7 (jlc q cI cZ cL (u, g) ++ jmc r cI cZ v) [(0, .ref b), (1, .ref (q 0)), (2, .ref (r 0)), (3, .ref (q 12)), (4, .int (nI (5 * k)))] 124 [] := by
  have hbA : ¬ s.heap.size ≤ b := by omega
  refine ja_aload_n K 1 dW_124 rfl ?_
  refine ja_aload_n K 0 dW_125 rfl ?_
  refine ja_iload K 4 dW_126 rfl ?_
  refine ja_iconst K (nI 1) dW_128 (by decide) ?_
  refine ja_iadd K (nI (5 * k + 1)) dW_129 (nI_add _ _) ?_
  refine ja_sld K hX hbl hbA (5 * k + 1) rfl (by omega) (by omega) dW_130 ?_
  refine ja_aload_n K 0 dW_131 rfl ?_
  refine ja_iload K 4 dW_132 rfl ?_
  refine ja_iconst K (nI 2) dW_134 (by decide) ?_
  refine ja_iadd K (nI (5 * k + 2)) dW_135 (nI_add _ _) ?_
  refine ja_sld K hX hbl hbA (5 * k + 2) rfl (by omega) (by omega) dW_136 ?_
  suffices hs145 : jaW p l e room_1 s m #[Value.ref b] below meth c (23 + k) (3094 + 6 * k) (lw_Z below #[Value.ref b] s) D vwCl (fun q9 => s.heap.size ≤ q9) 7 (jlc q cI cZ cL (u, g) ++ jmc r cI cZ v) [(0, .ref b), (1, .ref (q 0)), (2, .ref (r 0)), (3, .ref (q 12)), (4, .int (nI (5 * k)))] 145 [.int (jbI b9), .int (xs (5 * k + 1)), .ref (q 0)] by
    refine ja_if_eq K (tgt := 144) (b9 = false) dW_137 (by decide) hb9 (fun h7 => ?_) (fun h7 => ?_)
    · exact ja_iconst K (jbI b9) dW_144 (by rw [h7]; decide) hs145
    · refine ja_iconst K (jbI b9) dW_140 (by cases b9 <;> first | decide | exact absurd rfl h7) ?_
      exact ja_goto K (tgt := 145) dW_141 (by decide) hs145
  refine ja_aload_n K 3 dW_145 rfl ?_
  refine ja_fcallSL K (hh := [(0, 10, 13, 13), (0, 10, 17, 15)]) (wr := jmc r cI cZ v) [0, 1, 2, 3, 4, 5, 6, 7, 8, 9, 10, 11, 12] [13, 14, 15, 16, 17, 18, 19, 20, 21, 22] [0, 1, 2] rfl rfl rfl rfl rfl (by decide) rfl (st := []) [.ref (q 0), .int (xs (5 * k + 1)), .int (jbI b9), .ref (q 12)] (je_node l hst9 D q cI cZ cL S u g hW hu (xs (5 * k + 1)) b9) (vx_cwSW 4 K.1.2.2.2.2 (gL_L_node _) rfl rfl rfl (by decide +kernel) ⟨Nat.le_of_ble_eq_true rfl, Nat.le_of_ble_eq_true rfl⟩) rfl rfl rfl (Nat.le_of_ble_eq_true rfl) dW_146 ⟨by show 23 + k + 1 ≤ 1064; omega, by show 3094 + 6 * k + 6 ≤ 11388; omega⟩ hZ (fun r9 z9 h9 => ?_)
  obtain ⟨u9, g9⟩ := z9
  refine ja_perm (ws1 := jlc q cI cZ cL (u9, g9) ++ jmc r cI cZ v) [10, 11, 12, 13, 14, 15, 16, 17, 18, 19, 20, 21, 22, 0, 1, 2, 3, 4, 5, 6, 7, 8, 9] rfl rfl rfl ?_
  refine ja_istore K (lv1 := [(0, .ref b), (1, .ref (q 0)), (2, .ref (r 0)), (3, .ref (q 12)), (4, .int (nI (5 * k))), (5, .int r9)]) dW_149 (by decide) rfl rfl ?_
  refine ja_aload_n K 2 dW_151 rfl ?_
  refine ja_aload_n K 0 dW_152 rfl ?_
  refine ja_iload K 4 dW_153 rfl ?_
  refine ja_iconst K (nI 1) dW_155 (by decide) ?_
  refine ja_iadd K (nI (5 * k + 1)) dW_156 (nI_add _ _) ?_
  refine ja_sld K hX hbl hbA (5 * k + 1) rfl (by omega) (by omega) dW_157 ?_
  refine ja_aload_n K 0 dW_158 rfl ?_
  refine ja_iload K 4 dW_159 rfl ?_
  refine ja_iconst K (nI 2) dW_161 (by decide) ?_
  refine ja_iadd K (nI (5 * k + 2)) dW_162 (nI_add _ _) ?_
  refine ja_sld K hX hbl hbA (5 * k + 2) rfl (by omega) (by omega) dW_163 ?_
  suffices hs172 : jaW p l e room_1 s m #[Value.ref b] below meth c (23 + k + 1) (3094 + 6 * k + 6) (lw_Z below #[Value.ref b] s) D vwCl (fun q9 => s.heap.size ≤ q9) 7 (jlc q cI cZ cL (u9, g9) ++ jmc r cI cZ v) [(0, .ref b), (1, .ref (q 0)), (2, .ref (r 0)), (3, .ref (q 12)), (4, .int (nI (5 * k))), (5, .int r9)] 172 [.int (jbI b9), .int (xs (5 * k + 1)), .ref (r 0)] by
    refine ja_if_eq K (tgt := 171) (b9 = false) dW_164 (by decide) hb9 (fun h7 => ?_) (fun h7 => ?_)
    · exact ja_iconst K (jbI b9) dW_171 (by rw [h7]; decide) hs172
    · refine ja_iconst K (jbI b9) dW_167 (by cases b9 <;> first | decide | exact absurd rfl h7) ?_
      exact ja_goto K (tgt := 172) dW_168 (by decide) hs172
  refine ja_fcallVI K (wr := jlc q cI cZ cL (u9, g9)) [13, 14, 15, 16, 17, 18, 19, 20, 21, 22] [0, 1, 2, 3, 4, 5, 6, 7, 8, 9, 10, 11, 12] [0, 1] rfl rfl rfl rfl rfl (by decide) rfl (q0 := 0) (qc := (RX1, TX1, 16)) (st := []) [.int (xs (5 * k + 1)), .int (jbI b9)] (jd_node l D r cI cZ S v hW hv (xs (5 * k + 1)) b9) (cwV 2 K.1.2.2.2.2 (gL_X1_node _) rfl rfl rfl (by decide +kernel) ⟨Nat.le_of_ble_eq_true rfl, Nat.le_of_ble_eq_true rfl⟩) rfl rfl rfl rfl rfl (Nat.le_of_ble_eq_true rfl) dW_172 ⟨by show 23 + k + 1 + 0 ≤ 1064; omega, by show 3094 + 6 * k + 6 + 0 ≤ 11388; omega⟩ (fun r8 v9 h8 => ?_)
  refine ja_istore K (lv1 := [(0, .ref b), (1, .ref (q 0)), (2, .ref (r 0)), (3, .ref (q 12)), (4, .int (nI (5 * k))), (5, .int r9), (6, .int r8)]) dW_175 (by decide) rfl rfl ?_
  refine ja_aload_n K 2 dW_177 rfl ?_
  refine ja_fcallVI K (wr := jlc q cI cZ cL (u9, g9)) [13, 14, 15, 16, 17, 18, 19, 20, 21, 22] [0, 1, 2, 3, 4, 5, 6, 7, 8, 9, 10, 11, 12] [0, 1] rfl rfl rfl rfl rfl (by decide) rfl (q0 := 0) (qc := (RX1, TX1, 16)) (st := []) [] (jd_thrown l D r cI cZ v9) (cwV 0 K.1.2.2.2.2 (gL_X1_thrown _) rfl rfl rfl (by decide +kernel) ⟨Nat.le_of_ble_eq_true rfl, Nat.le_of_ble_eq_true rfl⟩) rfl rfl rfl rfl rfl (Nat.le_of_ble_eq_true rfl) dW_178 ⟨by show 23 + k + 1 + 0 + 0 ≤ 1064; omega, by show 3094 + 6 * k + 6 + 0 + 0 ≤ 11388; omega⟩ (fun r7 v8 h7 => ?_)
  obtain ⟨rfl, rfl⟩ := h7
  refine ja_iload K 5 dW_181 rfl ?_
  rcases h9 with ⟨rfl, rr, hg, hP⟩ | ⟨kk, E, hm, rfl, hx⟩
  · obtain ⟨hc, ha, hu9⟩ := hP
    have hEq : jmF v9 = nI 0 := h8.1.trans (by rw [hc])
    have hrr : rr = r8 := ha.symm.trans (h8.2.1 hc)
    have hv9 := h8.2.2.1 hc
    refine ja_icmp_eq K (tgt := 188) True dW_183 (by decide) ⟨fun _ => trivial, fun _ => hEq⟩ (fun _ => ?_) (fun h9 => absurd trivial h9)
    refine ja_iload K 5 dW_188 rfl ?_
    refine ja_if_ne K (tgt := 205) False dW_190 (by decide) ⟨fun h9 => h9 (by decide), fun h9 => h9.elim⟩ (fun h9 => h9.elim) (fun _ => ?_)
    refine ja_aload_n K 3 dW_193 rfl ?_
    refine ja_iconst K (nI 0) dW_194 (by decide) ?_
    refine ja_lald K (v := g9 0) 0 2 rfl rfl 0 rfl (by decide) (by decide) rfl dW_195 ?_
    refine ja_iload K 6 dW_196 rfl ?_
    refine ja_i2l K (r8.toInt64) dW_198 rfl ?_
    refine ja_lcmp K 0 dW_199 (by rw [show g9 0 = rr.toInt64 from hg, hrr]; exact jcmp_self _) ?_
    refine ja_if_eq K (tgt := 205) True dW_200 (by decide) ⟨fun _ => trivial, fun _ => rfl⟩ (fun _ => ?_) (fun h9 => absurd trivial h9)
    refine ja_goto K (tgt := 1051) dW_205 (by decide) ?_
    refine ja_locals (lv1 := [(0, .ref b), (1, .ref (q 0)), (2, .ref (r 0)), (3, .ref (q 12)), (4, .int (nI (5 * k)))]) [0, 1, 2, 3, 4] rfl ?_
    exact ja_wide (23 + (k + 1)) (3094 + 6 * (k + 1)) (by show 23 + k + 1 + 0 + 0 ≤ _; omega) (by show 3094 + 6 * k + 6 + 0 + 0 ≤ _; omega) (hB (jaddN S (xs (5 * k + 1)) b9) u9 v9 g9 (jwf_N hW hc) hu9 hv9)
  · obtain ⟨hux, hx⟩ := hx
    have hcc : jcN S (xs (5 * k + 1)) = kk ∧ 0 < kk ∧ kk < 4 := by
      rcases hx with ⟨rfl, hc⟩ | ⟨rfl, hc⟩ <;> (simp [jEA, jES, jEO] at hm; subst hm; exact ⟨hc, by decide, by decide⟩)
    obtain ⟨hc, hk0, hk4⟩ := hcc
    have hEq : jmF v9 = nI kk := h8.1.trans (by rw [hc])
    have hv9 := h8.2.2.2 (by omega)
    have hu9 : jxR1 S u9 := (show u = u9 from hux) ▸ hu
    refine ja_icmp_eq K (tgt := 188) True dW_183 (by decide) ⟨fun _ => trivial, fun _ => hEq⟩ (fun _ => ?_) (fun h9 => absurd trivial h9)
    refine ja_iload K 5 dW_188 rfl ?_
    refine ja_if_ne K (tgt := 205) True dW_190 (by decide) ⟨fun _ => trivial, fun _ h9 => absurd ((nI_eq (a := kk) (b := 0) (by omega) (by omega)).mp h9) (by omega)⟩ (fun _ => ?_) (fun h9 => absurd trivial h9)
    refine ja_goto K (tgt := 1051) dW_205 (by decide) ?_
    refine ja_locals (lv1 := [(0, .ref b), (1, .ref (q 0)), (2, .ref (r 0)), (3, .ref (q 12)), (4, .int (nI (5 * k)))]) [0, 1, 2, 3, 4] rfl ?_
    exact ja_wide (23 + (k + 1)) (3094 + 6 * (k + 1)) (by show 23 + k + 1 + 0 + 0 ≤ _; omega) (by show 3094 + 6 * k + 6 + 0 + 0 ≤ _; omega) (hB S u9 v9 g9 hW hu9 hv9)
