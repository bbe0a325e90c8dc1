set_option maxRecDepth 100000 in
set_option maxHeartbeats 600000 in
theorem jw_part {p : Program} {l : Launch} {e : Env} {s : State} {m : MethodId} {below : List Frame} {meth : Method} {c : Code} {b : Nat} {D : va_G} {cI cZ cL : ClassId} {q r : Nat → Nat} {k : Nat} {c0 : Cond} {N : Nat} {xs : Nat → Int32} (hst9 : l.stackTraces = false) (K : jaC p s m #[Value.ref b] meth c D vwCl (jLt cI cZ cL) code 7 (c0 :: jW0) RL ret (fun q9 => s.heap.size ≤ q9)) (hZ : jZL (fun q9 => s.heap.size ≤ q9) s) (hX : va_X b N xs s s.heap) (hbl : b < s.heap.size) (hN : N ≤ 2560) (hk : 5 * k + 5 ≤ N) (hB : jLB p l e s m below meth c b D cI cZ cL q r k) (S : JS) (u : JX) (v : JM) (g : Nat → Int64) (hW : jWf S) (hu : jxR1 S u) (hv : jmR1 S v) : jaW p l e room_1 s m #[Value.ref b] below meth c (23 + k) (3094 + 6 * k) (lw_Z below #[Value.ref b] s) D vwCl (fun q9 => s.heap.size ≤ q9) 7 (jlc q cI cZ cL (u, g) ++ jmc r cI cZ v) [(0, .ref b), (1, .ref (q 0)), (2, .ref (r 0)), (3, .ref (q 12)), (4, .int (nI (5 * k)))] 300 [] := by
  have hbA : ¬ s.heap.size ≤ b := by omega
  refine ja_aload_n K 1 dW_300 rfl ?_
  refine ja_aload_n K 0 dW_301 rfl ?_
  refine ja_iload K 4 dW_302 rfl ?_
  refine ja_iconst K (nI 1) dW_304 (by decide) ?_
  refine ja_iadd K (nI (5 * k + 1)) dW_305 (nI_add _ _) ?_
  refine ja_sld K hX hbl hbA (5 * k + 1) rfl (by omega) (by omega) dW_306 ?_
  refine ja_aload_n K 0 dW_307 rfl ?_
  refine ja_iload K 4 dW_308 rfl ?_
  refine ja_iconst K (nI 2) dW_310 (by decide) ?_
  refine ja_iadd K (nI (5 * k + 2)) dW_311 (nI_add _ _) ?_
  refine ja_sld K hX hbl hbA (5 * k + 2) rfl (by omega) (by omega) dW_312 ?_
  refine ja_aload_n K 0 dW_313 rfl ?_
  refine ja_iload K 4 dW_314 rfl ?_
  refine ja_iconst K (nI 3) dW_316 (by decide) ?_
  refine ja_iadd K (nI (5 * k + 3)) dW_317 (nI_add _ _) ?_
  refine ja_sld K hX hbl hbA (5 * k + 3) rfl (by omega) (by omega) dW_318 ?_
  refine ja_aload_n K 3 dW_319 rfl ?_
  refine ja_fcallSL K (hh := [(0, 12, 15, 21)]) (wr := jmc r cI cZ v) [0, 1, 2, 3, 4, 5, 6, 7, 8, 9, 10, 11, 12] [13, 14, 15, 16, 17, 18, 19, 20, 21, 22] [0, 1, 2] rfl rfl rfl rfl rfl (by decide) rfl (st := []) [.ref (q 0), .int (xs (5 * k + 1)), .int (xs (5 * k + 2)), .int (xs (5 * k + 3)), .ref (q 12)] (je_part l hst9 D q cI cZ cL S u g hW hu (xs (5 * k + 1)) (xs (5 * k + 2)) (xs (5 * k + 3))) (vx_cwSW 5 K.1.2.2.2.2 (gL_L_part _) rfl rfl rfl (by decide +kernel) ⟨Nat.le_of_ble_eq_true rfl, Nat.le_of_ble_eq_true rfl⟩) rfl rfl rfl (Nat.le_of_ble_eq_true rfl) dW_320 ⟨by show 23 + k + 1 ≤ 1064; omega, by show 3094 + 6 * k + 6 ≤ 11388; omega⟩ hZ (fun r9 z9 h9 => ?_)
  obtain ⟨u9, g9⟩ := z9
  refine ja_perm (ws1 := jlc q cI cZ cL (u9, g9) ++ jmc r cI cZ v) [10, 11, 12, 13, 14, 15, 16, 17, 18, 19, 20, 21, 22, 0, 1, 2, 3, 4, 5, 6, 7, 8, 9] rfl rfl rfl ?_
  refine ja_istore K (lv1 := [(0, .ref b), (1, .ref (q 0)), (2, .ref (r 0)), (3, .ref (q 12)), (4, .int (nI (5 * k))), (5, .int r9)]) dW_323 (by decide) rfl rfl ?_
  refine ja_aload_n K 2 dW_325 rfl ?_
  refine ja_aload_n K 0 dW_326 rfl ?_
  refine ja_iload K 4 dW_327 rfl ?_
  refine ja_iconst K (nI 1) dW_329 (by decide) ?_
  refine ja_iadd K (nI (5 * k + 1)) dW_330 (nI_add _ _) ?_
  refine ja_sld K hX hbl hbA (5 * k + 1) rfl (by omega) (by omega) dW_331 ?_
  refine ja_aload_n K 0 dW_332 rfl ?_
  refine ja_iload K 4 dW_333 rfl ?_
  refine ja_iconst K (nI 2) dW_335 (by decide) ?_
  refine ja_iadd K (nI (5 * k + 2)) dW_336 (nI_add _ _) ?_
  refine ja_sld K hX hbl hbA (5 * k + 2) rfl (by omega) (by omega) dW_337 ?_
  refine ja_aload_n K 0 dW_338 rfl ?_
  refine ja_iload K 4 dW_339 rfl ?_
  refine ja_iconst K (nI 3) dW_341 (by decide) ?_
  refine ja_iadd K (nI (5 * k + 3)) dW_342 (nI_add _ _) ?_
  refine ja_sld K hX hbl hbA (5 * k + 3) rfl (by omega) (by omega) dW_343 ?_
  refine ja_fcallVI K (wr := jlc q cI cZ cL (u9, g9)) [13, 14, 15, 16, 17, 18, 19, 20, 21, 22] [0, 1, 2, 3, 4, 5, 6, 7, 8, 9, 10, 11, 12] [0, 1] rfl rfl rfl rfl rfl (by decide) rfl (q0 := 0) (qc := (RX1, TX1, 16)) (st := []) [.int (xs (5 * k + 1)), .int (xs (5 * k + 2)), .int (xs (5 * k + 3))] (jd_part l D r cI cZ S v hW hv (xs (5 * k + 1)) (xs (5 * k + 2)) (xs (5 * k + 3))) (cwV 3 K.1.2.2.2.2 (gL_X1_part _) rfl rfl rfl (by decide +kernel) ⟨Nat.le_of_ble_eq_true rfl, Nat.le_of_ble_eq_true rfl⟩) rfl rfl rfl rfl rfl (Nat.le_of_ble_eq_true rfl) dW_344 ⟨by show 23 + k + 1 + 0 ≤ 1064; omega, by show 3094 + 6 * k + 6 + 0 ≤ 11388; omega⟩ (fun r8 v9 h8 => ?_)
  refine ja_istore K (lv1 := [(0, .ref b), (1, .ref (q 0)), (2, .ref (r 0)), (3, .ref (q 12)), (4, .int (nI (5 * k))), (5, .int r9), (6, .int r8)]) dW_347 (by decide) rfl rfl ?_
  refine ja_aload_n K 2 dW_349 rfl ?_
  refine ja_fcallVI K (wr := jlc q cI cZ cL (u9, g9)) [13, 14, 15, 16, 17, 18, 19, 20, 21, 22] [0, 1, 2, 3, 4, 5, 6, 7, 8, 9, 10, 11, 12] [0, 1] rfl rfl rfl rfl rfl (by decide) rfl (q0 := 0) (qc := (RX1, TX1, 16)) (st := []) [] (jd_thrown l D r cI cZ v9) (cwV 0 K.1.2.2.2.2 (gL_X1_thrown _) rfl rfl rfl (by decide +kernel) ⟨Nat.le_of_ble_eq_true rfl, Nat.le_of_ble_eq_true rfl⟩) rfl rfl rfl rfl rfl (Nat.le_of_ble_eq_true rfl) dW_350 ⟨by show 23 + k + 1 + 0 + 0 ≤ 1064; omega, by show 3094 + 6 * k + 6 + 0 + 0 ≤ 11388; omega⟩ (fun r7 v8 h7 => ?_)
  obtain ⟨rfl, rfl⟩ := h7
  refine ja_iload K 5 dW_353 rfl ?_
  rcases h9 with ⟨rfl, rr, hg, hP⟩ | ⟨kk, E, hm, rfl, hx⟩
  · obtain ⟨hc, ha, hu9⟩ := hP
    have hEq : jmF v9 = nI 0 := h8.1.trans (by rw [hc])
    have hrr : rr = r8 := ha.symm.trans (h8.2.1 hc)
    have hv9 := h8.2.2.1 hc
    refine ja_icmp_eq K (tgt := 360) True dW_355 (by decide) ⟨fun _ => trivial, fun _ => hEq⟩ (fun _ => ?_) (fun h9 => absurd trivial h9)
    refine ja_iload K 5 dW_360 rfl ?_
    refine ja_if_ne K (tgt := 377) False dW_362 (by decide) ⟨fun h9 => h9 (by decide), fun h9 => h9.elim⟩ (fun h9 => h9.elim) (fun _ => ?_)
    refine ja_aload_n K 3 dW_365 rfl ?_
    refine ja_iconst K (nI 0) dW_366 (by decide) ?_
    refine ja_lald K (v := g9 0) 0 2 rfl rfl 0 rfl (by decide) (by decide) rfl dW_367 ?_
    refine ja_iload K 6 dW_368 rfl ?_
    refine ja_i2l K (r8.toInt64) dW_370 rfl ?_
    refine ja_lcmp K 0 dW_371 (by rw [show g9 0 = rr.toInt64 from hg, hrr]; exact jcmp_self _) ?_
    refine ja_if_eq K (tgt := 377) True dW_372 (by decide) ⟨fun _ => trivial, fun _ => rfl⟩ (fun _ => ?_) (fun h9 => absurd trivial h9)
    refine ja_goto K (tgt := 1051) dW_377 (by decide) ?_
    refine ja_locals (lv1 := [(0, .ref b), (1, .ref (q 0)), (2, .ref (r 0)), (3, .ref (q 12)), (4, .int (nI (5 * k)))]) [0, 1, 2, 3, 4] rfl ?_
    exact ja_wide (23 + (k + 1)) (3094 + 6 * (k + 1)) (by show 23 + k + 1 + 0 + 0 ≤ _; omega) (by show 3094 + 6 * k + 6 + 0 + 0 ≤ _; omega) (hB (jsetU S (jv (xs (5 * k + 1))) (jv (xs (5 * k + 2))) (jv (xs (5 * k + 3))) none) u9 v9 g9 (jwf_P hW hc) hu9 hv9)
  · obtain ⟨hux, hx⟩ := hx
    have hcc : jcP S (xs (5 * k + 1)) (xs (5 * k + 2)) (xs (5 * k + 3)) = kk ∧ 0 < kk ∧ kk < 4 := by
      obtain ⟨rfl, hc⟩ := hx
      simp [jEA, jES, jEO] at hm; subst hm; exact ⟨hc, by decide, by decide⟩
    obtain ⟨hc, hk0, hk4⟩ := hcc
    have hEq : jmF v9 = nI kk := h8.1.trans (by rw [hc])
    have hv9 := h8.2.2.2 (by omega)
    have hu9 : jxR1 S u9 := (show u = u9 from hux) ▸ hu
    refine ja_icmp_eq K (tgt := 360) True dW_355 (by decide) ⟨fun _ => trivial, fun _ => hEq⟩ (fun _ => ?_) (fun h9 => absurd trivial h9)
    refine ja_iload K 5 dW_360 rfl ?_
    refine ja_if_ne K (tgt := 377) True dW_362 (by decide) ⟨fun _ => trivial, fun _ h9 => absurd ((nI_eq (a := kk) (b := 0) (by omega) (by omega)).mp h9) (by omega)⟩ (fun _ => ?_) (fun h9 => absurd trivial h9)
    refine ja_goto K (tgt := 1051) dW_377 (by decide) ?_
    refine ja_locals (lv1 := [(0, .ref b), (1, .ref (q 0)), (2, .ref (r 0)), (3, .ref (q 12)), (4, .int (nI (5 * k)))]) [0, 1, 2, 3, 4] rfl ?_
    exact ja_wide (23 + (k + 1)) (3094 + 6 * (k + 1)) (by show 23 + k + 1 + 0 + 0 ≤ _; omega) (by show 3094 + 6 * k + 6 + 0 + 0 ≤ _; omega) (hB S u9 v9 g9 hW hu9 hv9)
set_option maxRecDepth 100000 in
set_option maxHeartbeats 600000 in
theorem jw_join {p : Program} {l : Launch} {e : Env} {s : State} {m : MethodId} {below : List Frame} {meth : Method} {c : Code} {b : Nat} {D : va_G} {cI cZ cL : ClassId} {q r : Nat → Nat} {k : Nat} {c0 : Cond} {N : Nat} {xs : Nat → Int32} (hst9 : l.stackTraces = false) (K : jaC p s m #[Value.ref b] meth c D vwCl (jLt cI cZ cL) code 7 (c0 :: jW0) RL ret (fun q9 => s.heap.size ≤ q9)) (hZ : jZL (fun q9 => s.heap.size ≤ q9) s) (hX : va_X b N xs s s.heap) (hbl : b < s.heap.size) (hN : N ≤ 2560) (hk : 5 * k + 5 ≤ N) (hB : jLB p l e s m below meth c b D cI cZ cL q r k) (S : JS) (u : JX) (v : JM) (g : Nat → Int64) (hW : jWf S) (hu : jxR1 S u) (hv : jmR1 S v) : jaW p l e room_1 s m #[Value.ref b] below meth c (23 + k) (3094 + 6 * k) (lw_Z below #[Value.ref b] s) D vwCl (fun q9 => s.heap.size ≤ q9) 7 (jlc q cI cZ cL (u, g) ++ jmc r cI cZ v) [(0, .ref b), (1, .ref (q 0)), (2, .ref (r 0)), (3, .ref (q 12)), (4, .int (nI (5 * k)))] 208 [] := by
  have hbA : ¬ s.heap.size ≤ b := by omega
  refine ja_aload_n K 1 dW_208 rfl ?_
  refine ja_aload_n K 0 dW_209 rfl ?_
  refine ja_iload K 4 dW_210 rfl ?_
  refine ja_iconst K (nI 1) dW_212 (by decide) ?_
  refine ja_iadd K (nI (5 * k + 1)) dW_213 (nI_add _ _) ?_
  refine ja_sld K hX hbl hbA (5 * k + 1) rfl (by omega) (by omega) dW_214 ?_
  refine ja_aload_n K 0 dW_215 rfl ?_
  refine ja_iload K 4 dW_216 rfl ?_
  refine ja_iconst K (nI 2) dW_218 (by decide) ?_
  refine ja_iadd K (nI (5 * k + 2)) dW_219 (nI_add _ _) ?_
  refine ja_sld K hX hbl hbA (5 * k + 2) rfl (by omega) (by omega) dW_220 ?_
  refine ja_aload_n K 0 dW_221 rfl ?_
  refine ja_iload K 4 dW_222 rfl ?_
  refine ja_iconst K (nI 3) dW_224 (by decide) ?_
  refine ja_iadd K (nI (5 * k + 3)) dW_225 (nI_add _ _) ?_
  refine ja_sld K hX hbl hbA (5 * k + 3) rfl (by omega) (by omega) dW_226 ?_
  refine ja_aload_n K 0 dW_227 rfl ?_
  refine ja_iload K 4 dW_228 rfl ?_
  refine ja_iconst K (nI 4) dW_230 (by decide) ?_
  refine ja_iadd K (nI (5 * k + 4)) dW_231 (nI_add _ _) ?_
  refine ja_sld K hX hbl hbA (5 * k + 4) rfl (by omega) (by omega) dW_232 ?_
  refine ja_aload_n K 3 dW_233 rfl ?_
  refine ja_fcallSL K (hh := [(0, 14, 17, 21), (0, 14, 21, 13), (0, 14, 25, 15)]) (wr := jmc r cI cZ v) [0, 1, 2, 3, 4, 5, 6, 7, 8, 9, 10, 11, 12] [13, 14, 15, 16, 17, 18, 19, 20, 21, 22] [0, 1, 2] rfl rfl rfl rfl rfl (by decide) rfl (st := []) [.ref (q 0), .int (xs (5 * k + 1)), .int (xs (5 * k + 2)), .int (xs (5 * k + 3)), .int (xs (5 * k + 4)), .ref (q 12)] (je_join l hst9 D q cI cZ cL S u g hW hu (xs (5 * k + 1)) (xs (5 * k + 2)) (xs (5 * k + 3)) (xs (5 * k + 4))) (vx_cwSW 6 K.1.2.2.2.2 (gL_L_join _) rfl rfl rfl (by decide +kernel) ⟨Nat.le_of_ble_eq_true rfl, Nat.le_of_ble_eq_true rfl⟩) rfl rfl rfl (Nat.le_of_ble_eq_true rfl) dW_234 ⟨by show 23 + k + 1 ≤ 1064; omega, by show 3094 + 6 * k + 6 ≤ 11388; omega⟩ hZ (fun r9 z9 h9 => ?_)
  obtain ⟨u9, g9⟩ := z9
  refine ja_perm (ws1 := jlc q cI cZ cL (u9, g9) ++ jmc r cI cZ v) [10, 11, 12, 13, 14, 15, 16, 17, 18, 19, 20, 21, 22, 0, 1, 2, 3, 4, 5, 6, 7, 8, 9] rfl rfl rfl ?_
  refine ja_istore K (lv1 := [(0, .ref b), (1, .ref (q 0)), (2, .ref (r 0)), (3, .ref (q 12)), (4, .int (nI (5 * k))), (5, .int r9)]) dW_237 (by decide) rfl rfl ?_
  refine ja_aload_n K 2 dW_239 rfl ?_
  refine ja_aload_n K 0 dW_240 rfl ?_
  refine ja_iload K 4 dW_241 rfl ?_
  refine ja_iconst K (nI 1) dW_243 (by decide) ?_
  refine ja_iadd K (nI (5 * k + 1)) dW_244 (nI_add _ _) ?_
  refine ja_sld K hX hbl hbA (5 * k + 1) rfl (by omega) (by omega) dW_245 ?_
  refine ja_aload_n K 0 dW_246 rfl ?_
  refine ja_iload K 4 dW_247 rfl ?_
  refine ja_iconst K (nI 2) dW_249 (by decide) ?_
  refine ja_iadd K (nI (5 * k + 2)) dW_250 (nI_add _ _) ?_
  refine ja_sld K hX hbl hbA (5 * k + 2) rfl (by omega) (by omega) dW_251 ?_
  refine ja_aload_n K 0 dW_252 rfl ?_
  refine ja_iload K 4 dW_253 rfl ?_
  refine ja_iconst K (nI 3) dW_255 (by decide) ?_
  refine ja_iadd K (nI (5 * k + 3)) dW_256 (nI_add _ _) ?_
  refine ja_sld K hX hbl hbA (5 * k + 3) rfl (by omega) (by omega) dW_257 ?_
  refine ja_aload_n K 0 dW_258 rfl ?_
  refine ja_iload K 4 dW_259 rfl ?_
  refine ja_iconst K (nI 4) dW_261 (by decide) ?_
  refine ja_iadd K (nI (5 * k + 4)) dW_262 (nI_add _ _) ?_
  refine ja_sld K hX hbl hbA (5 * k + 4) rfl (by omega) (by omega) dW_263 ?_
  refine ja_fcallVI K (wr := jlc q cI cZ cL (u9, g9)) [13, 14, 15, 16, 17, 18, 19, 20, 21, 22] [0, 1, 2, 3, 4, 5, 6, 7, 8, 9, 10, 11, 12] [0, 1] rfl rfl rfl rfl rfl (by decide) rfl (q0 := 0) (qc := (RX1, TX1, 16)) (st := []) [.int (xs (5 * k + 1)), .int (xs (5 * k + 2)), .int (xs (5 * k + 3)), .int (xs (5 * k + 4))] (jd_join l D r cI cZ S v hW hv (xs (5 * k + 1)) (xs (5 * k + 2)) (xs (5 * k + 3)) (xs (5 * k + 4))) (cwV 4 K.1.2.2.2.2 (gL_X1_join _) rfl rfl rfl (by decide +kernel) ⟨Nat.le_of_ble_eq_true rfl, Nat.le_of_ble_eq_true rfl⟩) rfl rfl rfl rfl rfl (Nat.le_of_ble_eq_true rfl) dW_264 ⟨by show 23 + k + 1 + 0 ≤ 1064; omega, by show 3094 + 6 * k + 6 + 0 ≤ 11388; omega⟩ (fun r8 v9 h8 => ?_)
  refine ja_istore K (lv1 := [(0, .ref b), (1, .ref (q 0)), (2, .ref (r 0)), (3, .ref (q 12)), (4, .int (nI (5 * k))), (5, .int r9), (6, .int r8)]) dW_267 (by decide) rfl rfl ?_
  refine ja_aload_n K 2 dW_269 rfl ?_
  refine ja_fcallVI K (wr := jlc q cI cZ cL (u9, g9)) [13, 14, 15, 16, 17, 18, 19, 20, 21, 22] [0, 1, 2, 3, 4, 5, 6, 7, 8, 9, 10, 11, 12] [0, 1] rfl rfl rfl rfl rfl (by decide) rfl (q0 := 0) (qc := (RX1, TX1, 16)) (st := []) [] (jd_thrown l D r cI cZ v9) (cwV 0 K.1.2.2.2.2 (gL_X1_thrown _) rfl rfl rfl (by decide +kernel) ⟨Nat.le_of_ble_eq_true rfl, Nat.le_of_ble_eq_true rfl⟩) rfl rfl rfl rfl rfl (Nat.le_of_ble_eq_true rfl) dW_270 ⟨by show 23 + k + 1 + 0 + 0 ≤ 1064; omega, by show 3094 + 6 * k + 6 + 0 + 0 ≤ 11388; omega⟩ (fun r7 v8 h7 => ?_)
  obtain ⟨rfl, rfl⟩ := h7
  refine ja_iload K 5 dW_273 rfl ?_
  rcases h9 with ⟨rfl, rr, hg, hP⟩ | ⟨kk, E, hm, rfl, hx⟩
  · obtain ⟨hc, ha, hu9⟩ := hP
    have hEq : jmF v9 = nI 0 := h8.1.trans (by rw [hc])
    have hrr : rr = r8 := ha.symm.trans (h8.2.1 hc)
    have hv9 := h8.2.2.1 hc
    refine ja_icmp_eq K (tgt := 280) True dW_275 (by decide) ⟨fun _ => trivial, fun _ => hEq⟩ (fun _ => ?_) (fun h9 => absurd trivial h9)
    refine ja_iload K 5 dW_280 rfl ?_
    refine ja_if_ne K (tgt := 297) False dW_282 (by decide) ⟨fun h9 => h9 (by decide), fun h9 => h9.elim⟩ (fun h9 => h9.elim) (fun _ => ?_)
    refine ja_aload_n K 3 dW_285 rfl ?_
    refine ja_iconst K (nI 0) dW_286 (by decide) ?_
    refine ja_lald K (v := g9 0) 0 2 rfl rfl 0 rfl (by decide) (by decide) rfl dW_287 ?_
    refine ja_iload K 6 dW_288 rfl ?_
    refine ja_i2l K (r8.toInt64) dW_290 rfl ?_
    refine ja_lcmp K 0 dW_291 (by rw [show g9 0 = rr.toInt64 from hg, hrr]; exact jcmp_self _) ?_
    refine ja_if_eq K (tgt := 297) True dW_292 (by decide) ⟨fun _ => trivial, fun _ => rfl⟩ (fun _ => ?_) (fun h9 => absurd trivial h9)
    refine ja_goto K (tgt := 1051) dW_297 (by decide) ?_
    refine ja_locals (lv1 := [(0, .ref b), (1, .ref (q 0)), (2, .ref (r 0)), (3, .ref (q 12)), (4, .int (nI (5 * k)))]) [0, 1, 2, 3, 4] rfl ?_
    exact ja_wide (23 + (k + 1)) (3094 + 6 * (k + 1)) (by show 23 + k + 1 + 0 + 0 ≤ _; omega) (by show 3094 + 6 * k + 6 + 0 + 0 ≤ _; omega) (hB (jsetU S (jv (xs (5 * k + 1))) (jv (xs (5 * k + 2))) (jv (xs (5 * k + 4))) (some (jv (xs (5 * k + 3))))) u9 v9 g9 (jwf_J hW hc) hu9 hv9)
  · obtain ⟨hux, hx⟩ := hx
    have hcc : jcJ S (xs (5 * k + 1)) (xs (5 * k + 2)) (xs (5 * k + 3)) (xs (5 * k + 4)) = kk ∧ 0 < kk ∧ kk < 4 := by
      rcases hx with ⟨rfl, hc⟩ | ⟨rfl, hc⟩ | ⟨rfl, hc⟩ <;> (simp [jEA, jES, jEO] at hm; subst hm; exact ⟨hc, by decide, by decide⟩)
    obtain ⟨hc, hk0, hk4⟩ := hcc
    have hEq : jmF v9 = nI kk := h8.1.trans (by rw [hc])
    have hv9 := h8.2.2.2 (by omega)
    have hu9 : jxR1 S u9 := (show u = u9 from hux) ▸ hu
    refine ja_icmp_eq K (tgt := 280) True dW_275 (by decide) ⟨fun _ => trivial, fun _ => hEq⟩ (fun _ => ?_) (fun h9 => absurd trivial h9)
    refine ja_iload K 5 dW_280 rfl ?_
    refine ja_if_ne K (tgt := 297) True dW_282 (by decide) ⟨fun _ => trivial, fun _ h9 => absurd ((nI_eq (a := kk) (b := 0) (by omega) (by omega)).mp h9) (by omega)⟩ (fun _ => ?_) (fun h9 => absurd trivial h9)
    refine ja_goto K (tgt := 1051) dW_297 (by decide) ?_
    refine ja_locals (lv1 := [(0, .ref b), (1, .ref (q 0)), (2, .ref (r 0)), (3, .ref (q 12)), (4, .int (nI (5 * k)))]) [0, 1, 2, 3, 4] rfl ?_
    exact ja_wide (23 + (k + 1)) (3094 + 6 * (k + 1)) (by show 23 + k + 1 + 0 + 0 ≤ _; omega) (by show 3094 + 6 * k + 6 + 0 + 0 ≤ _; omega) (hB S u9 v9 g9 hW hu9 hv9)
set_option maxRecDepth 100000 in
set_option maxHeartbeats 600000 in
theorem jw_site {p : Program} {l : Launch} {e : Env} {s : State} {m : MethodId} {below : List Frame} {meth : Method} {c : Code} {b : Nat} {D : va_G} {cI cZ cL : ClassId} {q r : Nat → Nat} {k : Nat} {c0 : Cond} {N : Nat} {xs : Nat → Int32} (hst9 : l.stackTraces = false) (K : jaC p s m #[Value.ref b] meth c D vwCl (jLt cI cZ cL) code 7 (c0 :: jW0) RL ret (fun q9 => s.heap.size ≤ q9)) (hZ : jZL (fun q9 => s.heap.size ≤ q9) s) (hX : va_X b N xs s s.heap) (hbl : b < s.heap.size) (hN : N ≤ 2560) (hk : 5 * k + 5 ≤ N) (hB : jLB p l e s m below meth c b D cI cZ cL q r k) (S : JS) (u : JX) (v : JM) (g : Nat → Int64) (hW : jWf S) (hu : jxR1 S u) (hv : jmR1 S v) : jaW p l e room_1 s m #[Value.ref b] below meth c (23 + k) (3094 + 6 * k) (lw_Z below #[Value.ref b] s) D vwCl (fun q9 => s.heap.size ≤ q9) 7 (jlc q cI cZ cL (u, g) ++ jmc r cI cZ v) [(0, .ref b), (1, .ref (q 0)), (2, .ref (r 0)), (3, .ref (q 12)), (4, .int (nI (5 * k)))] 380 [] := by
  have hbA : ¬ s.heap.size ≤ b := by omega
  refine ja_aload_n K 1 dW_380 rfl ?_
  refine ja_aload_n K 0 dW_381 rfl ?_
  refine ja_iload K 4 dW_382 rfl ?_
  refine ja_iconst K (nI 1) dW_384 (by decide) ?_
  refine ja_iadd K (nI (5 * k + 1)) dW_385 (nI_add _ _) ?_
  refine ja_sld K hX hbl hbA (5 * k + 1) rfl (by omega) (by omega) dW_386 ?_
  refine ja_aload_n K 0 dW_387 rfl ?_
  refine ja_iload K 4 dW_388 rfl ?_
  refine ja_iconst K (nI 2) dW_390 (by decide) ?_
  refine ja_iadd K (nI (5 * k + 2)) dW_391 (nI_add _ _) ?_
  refine ja_sld K hX hbl hbA (5 * k + 2) rfl (by omega) (by omega) dW_392 ?_
  refine ja_aload_n K 3 dW_393 rfl ?_
  refine ja_fcallSL K (hh := [(0, 10, 13, 21), (0, 10, 17, 13), (0, 10, 21, 15)]) (wr := jmc r cI cZ v) [0, 1, 2, 3, 4, 5, 6, 7, 8, 9, 10, 11, 12] [13, 14, 15, 16, 17, 18, 19, 20, 21, 22] [0, 1, 2] rfl rfl rfl rfl rfl (by decide) rfl (st := []) [.ref (q 0), .int (xs (5 * k + 1)), .int (xs (5 * k + 2)), .ref (q 12)] (je_site l hst9 D q cI cZ cL S u g hW hu (xs (5 * k + 1)) (xs (5 * k + 2))) (vx_cwSW 4 K.1.2.2.2.2 (gL_L_site _) rfl rfl rfl (by decide +kernel) ⟨Nat.le_of_ble_eq_true rfl, Nat.le_of_ble_eq_true rfl⟩) rfl rfl rfl (Nat.le_of_ble_eq_true rfl) dW_394 ⟨by show 23 + k + 1 ≤ 1064; omega, by show 3094 + 6 * k + 6 ≤ 11388; omega⟩ hZ (fun r9 z9 h9 => ?_)
  obtain ⟨u9, g9⟩ := z9
  refine ja_perm (ws1 := jlc q cI cZ cL (u9, g9) ++ jmc r cI cZ v) [10, 11, 12, 13, 14, 15, 16, 17, 18, 19, 20, 21, 22, 0, 1, 2, 3, 4, 5, 6, 7, 8, 9] rfl rfl rfl ?_
  refine ja_istore K (lv1 := [(0, .ref b), (1, .ref (q 0)), (2, .ref (r 0)), (3, .ref (q 12)), (4, .int (nI (5 * k))), (5, .int r9)]) dW_397 (by decide) rfl rfl ?_
  refine ja_aload_n K 2 dW_399 rfl ?_
  refine ja_aload_n K 0 dW_400 rfl ?_
  refine ja_iload K 4 dW_401 rfl ?_
  refine ja_iconst K (nI 1) dW_403 (by decide) ?_
  refine ja_iadd K (nI (5 * k + 1)) dW_404 (nI_add _ _) ?_
  refine ja_sld K hX hbl hbA (5 * k + 1) rfl (by omega) (by omega) dW_405 ?_
  refine ja_aload_n K 0 dW_406 rfl ?_
  refine ja_iload K 4 dW_407 rfl ?_
  refine ja_iconst K (nI 2) dW_409 (by decide) ?_
  refine ja_iadd K (nI (5 * k + 2)) dW_410 (nI_add _ _) ?_
  refine ja_sld K hX hbl hbA (5 * k + 2) rfl (by omega) (by omega) dW_411 ?_
  refine ja_fcallVI K (wr := jlc q cI cZ cL (u9, g9)) [13, 14, 15, 16, 17, 18, 19, 20, 21, 22] [0, 1, 2, 3, 4, 5, 6, 7, 8, 9, 10, 11, 12] [0, 1] rfl rfl rfl rfl rfl (by decide) rfl (q0 := 0) (qc := (RX1, TX1, 16)) (st := []) [.int (xs (5 * k + 1)), .int (xs (5 * k + 2))] (jd_site l D r cI cZ S v hW hv (xs (5 * k + 1)) (xs (5 * k + 2))) (cwV 2 K.1.2.2.2.2 (gL_X1_site _) rfl rfl rfl (by decide +kernel) ⟨Nat.le_of_ble_eq_true rfl, Nat.le_of_ble_eq_true rfl⟩) rfl rfl rfl rfl rfl (Nat.le_of_ble_eq_true rfl) dW_412 ⟨by show 23 + k + 1 + 0 ≤ 1064; omega, by show 3094 + 6 * k + 6 + 0 ≤ 11388; omega⟩ (fun r8 v9 h8 => ?_)
  refine ja_istore K (lv1 := [(0, .ref b), (1, .ref (q 0)), (2, .ref (r 0)), (3, .ref (q 12)), (4, .int (nI (5 * k))), (5, .int r9), (6, .int r8)]) dW_415 (by decide) rfl rfl ?_
  refine ja_aload_n K 2 dW_417 rfl ?_
  refine ja_fcallVI K (wr := jlc q cI cZ cL (u9, g9)) [13, 14, 15, 16, 17, 18, 19, 20, 21, 22] [0, 1, 2, 3, 4, 5, 6, 7, 8, 9, 10, 11, 12] [0, 1] rfl rfl rfl rfl rfl (by decide) rfl (q0 := 0) (qc := (RX1, TX1, 16)) (st := []) [] (jd_thrown l D r cI cZ v9) (cwV 0 K.1.2.2.2.2 (gL_X1_thrown _) rfl rfl rfl (by decide +kernel) ⟨Nat.le_of_ble_eq_true rfl, Nat.le_of_ble_eq_true rfl⟩) rfl rfl rfl rfl rfl (Nat.le_of_ble_eq_true rfl) dW_418 ⟨by show 23 + k + 1 + 0 + 0 ≤ 1064; omega, by show 3094 + 6 * k + 6 + 0 + 0 ≤ 11388; omega⟩ (fun r7 v8 h7 => ?_)
  obtain ⟨rfl, rfl⟩ := h7
  refine ja_iload K 5 dW_421 rfl ?_
  rcases h9 with ⟨rfl, rr, hg, hP⟩ | ⟨kk, E, hm, rfl, hx⟩
  · obtain ⟨hc, ha, hu9⟩ := hP
    have hEq : jmF v9 = nI 0 := h8.1.trans (by rw [hc])
    have hrr : rr = r8 := ha.symm.trans (h8.2.1 hc)
    have hv9 := h8.2.2.1 hc
    refine ja_icmp_eq K (tgt := 428) True dW_423 (by decide) ⟨fun _ => trivial, fun _ => hEq⟩ (fun _ => ?_) (fun h9 => absurd trivial h9)
    refine ja_iload K 5 dW_428 rfl ?_
    refine ja_if_ne K (tgt := 445) False dW_430 (by decide) ⟨fun h9 => h9 (by decide), fun h9 => h9.elim⟩ (fun h9 => h9.elim) (fun _ => ?_)
    refine ja_aload_n K 3 dW_433 rfl ?_
    refine ja_iconst K (nI 0) dW_434 (by decide) ?_
    refine ja_lald K (v := g9 0) 0 2 rfl rfl 0 rfl (by decide) (by decide) rfl dW_435 ?_
    refine ja_iload K 6 dW_436 rfl ?_
    refine ja_i2l K (r8.toInt64) dW_438 rfl ?_
    refine ja_lcmp K 0 dW_439 (by rw [show g9 0 = rr.toInt64 from hg, hrr]; exact jcmp_self _) ?_
    refine ja_if_eq K (tgt := 445) True dW_440 (by decide) ⟨fun _ => trivial, fun _ => rfl⟩ (fun _ => ?_) (fun h9 => absurd trivial h9)
    refine ja_goto K (tgt := 1051) dW_445 (by decide) ?_
    refine ja_locals (lv1 := [(0, .ref b), (1, .ref (q 0)), (2, .ref (r 0)), (3, .ref (q 12)), (4, .int (nI (5 * k)))]) [0, 1, 2, 3, 4] rfl ?_
    exact ja_wide (23 + (k + 1)) (3094 + 6 * (k + 1)) (by show 23 + k + 1 + 0 + 0 ≤ _; omega) (by show 3094 + 6 * k + 6 + 0 + 0 ≤ _; omega) (hB (jaddS S (xs (5 * k + 1)) (xs (5 * k + 2))) u9 v9 g9 (jwf_S hW hc) hu9 hv9)
  · obtain ⟨hux, hx⟩ := hx
    have hcc : jcS S (xs (5 * k + 1)) (xs (5 * k + 2)) = kk ∧ 0 < kk ∧ kk < 4 := by
      rcases hx with ⟨rfl, hc⟩ | ⟨rfl, hc⟩ | ⟨rfl, hc⟩ <;> (simp [jEA, jES, jEO] at hm; subst hm; exact ⟨hc, by decide, by decide⟩)
    obtain ⟨hc, hk0, hk4⟩ := hcc
    have hEq : jmF v9 = nI kk := h8.1.trans (by rw [hc])
    have hv9 := h8.2.2.2 (by omega)
    have hu9 : jxR1 S u9 := (show u = u9 from hux) ▸ hu
    refine ja_icmp_eq K (tgt := 428) True dW_423 (by decide) ⟨fun _ => trivial, fun _ => hEq⟩ (fun _ => ?_) (fun h9 => absurd trivial h9)
    refine ja_iload K 5 dW_428 rfl ?_
    refine ja_if_ne K (tgt := 445) True dW_430 (by decide) ⟨fun _ => trivial, fun _ h9 => absurd ((nI_eq (a := kk) (b := 0) (by omega) (by omega)).mp h9) (by omega)⟩ (fun _ => ?_) (fun h9 => absurd trivial h9)
    refine ja_goto K (tgt := 1051) dW_445 (by decide) ?_
    refine ja_locals (lv1 := [(0, .ref b), (1, .ref (q 0)), (2, .ref (r 0)), (3, .ref (q 12)), (4, .int (nI (5 * k)))]) [0, 1, 2, 3, 4] rfl ?_
    exact ja_wide (23 + (k + 1)) (3094 + 6 * (k + 1)) (by show 23 + k + 1 + 0 + 0 ≤ _; omega) (by show 3094 + 6 * k + 6 + 0 + 0 ≤ _; omega) (hB S u9 v9 g9 hW hu9 hv9)
set_option maxRecDepth 100000 in
set_option maxHeartbeats 600000 in
theorem jw_mutate {p : Program} {l : Launch} {e : Env} {s : State} {m : MethodId} {below : List Frame} {meth : Method} {c : Code} {b : Nat} {D : va_G} {cI cZ cL : ClassId} {q r : Nat → Nat} {k : Nat} {c0 : Cond} {N : Nat} {xs : Nat → Int32} (hst9 : l.stackTraces = false) (K : jaC p s m #[Value.ref b] meth c D vwCl (jLt cI cZ cL) code 7 (c0 :: jW0) RL ret (fun q9 => s.heap.size ≤ q9)) (hZ : jZL (fun q9 => s.heap.size ≤ q9) s) (hX : va_X b N xs s s.heap) (hbl : b < s.heap.size) (hN : N ≤ 2560) (hk : 5 * k + 5 ≤ N) (hB : jLB p l e s m below meth c b D cI cZ cL q r k) (S : JS) (u : JX) (v : JM) (g : Nat → Int64) (hW : jWf S) (hu : jxR1 S u) (hv : jmR1 S v) : jaW p l e room_1 s m #[Value.ref b] below meth c (23 + k) (3094 + 6 * k) (lw_Z below #[Value.ref b] s) D vwCl (fun q9 => s.heap.size ≤ q9) 7 (jlc q cI cZ cL (u, g) ++ jmc r cI cZ v) [(0, .ref b), (1, .ref (q 0)), (2, .ref (r 0)), (3, .ref (q 12)), (4, .int (nI (5 * k)))] 448 [] := by
  have hbA : ¬ s.heap.size ≤ b := by omega
  refine ja_aload_n K 1 dW_448 rfl ?_
  refine ja_aload_n K 0 dW_449 rfl ?_
  refine ja_iload K 4 dW_450 rfl ?_
  refine ja_iconst K (nI 1) dW_452 (by decide) ?_
  refine ja_iadd K (nI (5 * k + 1)) dW_453 (nI_add _ _) ?_
  refine ja_sld K hX hbl hbA (5 * k + 1) rfl (by omega) (by omega) dW_454 ?_
  refine ja_aload_n K 0 dW_455 rfl ?_
  refine ja_iload K 4 dW_456 rfl ?_
  refine ja_iconst K (nI 2) dW_458 (by decide) ?_
  refine ja_iadd K (nI (5 * k + 2)) dW_459 (nI_add _ _) ?_
  refine ja_sld K hX hbl hbA (5 * k + 2) rfl (by omega) (by omega) dW_460 ?_
  refine ja_aload_n K 0 dW_461 rfl ?_
  refine ja_iload K 4 dW_462 rfl ?_
  refine ja_iconst K (nI 3) dW_464 (by decide) ?_
  refine ja_iadd K (nI (5 * k + 3)) dW_465 (nI_add _ _) ?_
  refine ja_sld K hX hbl hbA (5 * k + 3) rfl (by omega) (by omega) dW_466 ?_
  refine ja_aload_n K 3 dW_467 rfl ?_
  refine ja_fcallSL K (hh := [(0, 12, 15, 21), (0, 12, 19, 13)]) (wr := jmc r cI cZ v) [0, 1, 2, 3, 4, 5, 6, 7, 8, 9, 10, 11, 12] [13, 14, 15, 16, 17, 18, 19, 20, 21, 22] [0, 1, 2] rfl rfl rfl rfl rfl (by decide) rfl (st := []) [.ref (q 0), .int (xs (5 * k + 1)), .int (xs (5 * k + 2)), .int (xs (5 * k + 3)), .ref (q 12)] (je_mutate l hst9 D q cI cZ cL S u g hW hu (xs (5 * k + 1)) (xs (5 * k + 2)) (xs (5 * k + 3))) (vx_cwSW 5 K.1.2.2.2.2 (gL_L_mutate _) rfl rfl rfl (by decide +kernel) ⟨Nat.le_of_ble_eq_true rfl, Nat.le_of_ble_eq_true rfl⟩) rfl rfl rfl (Nat.le_of_ble_eq_true rfl) dW_468 ⟨by show 23 + k + 1 ≤ 1064; omega, by show 3094 + 6 * k + 6 ≤ 11388; omega⟩ hZ (fun r9 z9 h9 => ?_)
  obtain ⟨u9, g9⟩ := z9
  refine ja_perm (ws1 := jlc q cI cZ cL (u9, g9) ++ jmc r cI cZ v) [10, 11, 12, 13, 14, 15, 16, 17, 18, 19, 20, 21, 22, 0, 1, 2, 3, 4, 5, 6, 7, 8, 9] rfl rfl rfl ?_
  refine ja_istore K (lv1 := [(0, .ref b), (1, .ref (q 0)), (2, .ref (r 0)), (3, .ref (q 12)), (4, .int (nI (5 * k))), (5, .int r9)]) dW_471 (by decide) rfl rfl ?_
  refine ja_aload_n K 2 dW_473 rfl ?_
  refine ja_aload_n K 0 dW_474 rfl ?_
  refine ja_iload K 4 dW_475 rfl ?_
  refine ja_iconst K (nI 1) dW_477 (by decide) ?_
  refine ja_iadd K (nI (5 * k + 1)) dW_478 (nI_add _ _) ?_
  refine ja_sld K hX hbl hbA (5 * k + 1) rfl (by omega) (by omega) dW_479 ?_
  refine ja_aload_n K 0 dW_480 rfl ?_
  refine ja_iload K 4 dW_481 rfl ?_
  refine ja_iconst K (nI 2) dW_483 (by decide) ?_
  refine ja_iadd K (nI (5 * k + 2)) dW_484 (nI_add _ _) ?_
  refine ja_sld K hX hbl hbA (5 * k + 2) rfl (by omega) (by omega) dW_485 ?_
  refine ja_aload_n K 0 dW_486 rfl ?_
  refine ja_iload K 4 dW_487 rfl ?_
  refine ja_iconst K (nI 3) dW_489 (by decide) ?_
  refine ja_iadd K (nI (5 * k + 3)) dW_490 (nI_add _ _) ?_
  refine ja_sld K hX hbl hbA (5 * k + 3) rfl (by omega) (by omega) dW_491 ?_
  refine ja_fcallVI K (wr := jlc q cI cZ cL (u9, g9)) [13, 14, 15, 16, 17, 18, 19, 20, 21, 22] [0, 1, 2, 3, 4, 5, 6, 7, 8, 9, 10, 11, 12] [0, 1] rfl rfl rfl rfl rfl (by decide) rfl (q0 := 0) (qc := (RX1, TX1, 16)) (st := []) [.int (xs (5 * k + 1)), .int (xs (5 * k + 2)), .int (xs (5 * k + 3))] (jd_mutate l D r cI cZ S v hW hv (xs (5 * k + 1)) (xs (5 * k + 2)) (xs (5 * k + 3))) (cwV 3 K.1.2.2.2.2 (gL_X1_mutate _) rfl rfl rfl (by decide +kernel) ⟨Nat.le_of_ble_eq_true rfl, Nat.le_of_ble_eq_true rfl⟩) rfl rfl rfl rfl rfl (Nat.le_of_ble_eq_true rfl) dW_492 ⟨by show 23 + k + 1 + 0 ≤ 1064; omega, by show 3094 + 6 * k + 6 + 0 ≤ 11388; omega⟩ (fun r8 v9 h8 => ?_)
  refine ja_istore K (lv1 := [(0, .ref b), (1, .ref (q 0)), (2, .ref (r 0)), (3, .ref (q 12)), (4, .int (nI (5 * k))), (5, .int r9), (6, .int r8)]) dW_495 (by decide) rfl rfl ?_
  refine ja_aload_n K 2 dW_497 rfl ?_
  refine ja_fcallVI K (wr := jlc q cI cZ cL (u9, g9)) [13, 14, 15, 16, 17, 18, 19, 20, 21, 22] [0, 1, 2, 3, 4, 5, 6, 7, 8, 9, 10, 11, 12] [0, 1] rfl rfl rfl rfl rfl (by decide) rfl (q0 := 0) (qc := (RX1, TX1, 16)) (st := []) [] (jd_thrown l D r cI cZ v9) (cwV 0 K.1.2.2.2.2 (gL_X1_thrown _) rfl rfl rfl (by decide +kernel) ⟨Nat.le_of_ble_eq_true rfl, Nat.le_of_ble_eq_true rfl⟩) rfl rfl rfl rfl rfl (Nat.le_of_ble_eq_true rfl) dW_498 ⟨by show 23 + k + 1 + 0 + 0 ≤ 1064; omega, by show 3094 + 6 * k + 6 + 0 + 0 ≤ 11388; omega⟩ (fun r7 v8 h7 => ?_)
  obtain ⟨rfl, rfl⟩ := h7
  refine ja_iload K 5 dW_501 rfl ?_
  rcases h9 with ⟨rfl, rr, hg, hP⟩ | ⟨kk, E, hm, rfl, hx⟩
  · obtain ⟨hc, ha, hu9⟩ := hP
    have hEq : jmF v9 = nI 0 := h8.1.trans (by rw [hc])
    have hrr : rr = r8 := ha.symm.trans (h8.2.1 hc)
    have hv9 := h8.2.2.1 hc
    refine ja_icmp_eq K (tgt := 508) True dW_503 (by decide) ⟨fun _ => trivial, fun _ => hEq⟩ (fun _ => ?_) (fun h9 => absurd trivial h9)
    refine ja_iload K 5 dW_508 rfl ?_
    refine ja_if_ne K (tgt := 525) False dW_510 (by decide) ⟨fun h9 => h9 (by decide), fun h9 => h9.elim⟩ (fun h9 => h9.elim) (fun _ => ?_)
    refine ja_aload_n K 3 dW_513 rfl ?_
    refine ja_iconst K (nI 0) dW_514 (by decide) ?_
    refine ja_lald K (v := g9 0) 0 2 rfl rfl 0 rfl (by decide) (by decide) rfl dW_515 ?_
    refine ja_iload K 6 dW_516 rfl ?_
    refine ja_i2l K (r8.toInt64) dW_518 rfl ?_
    refine ja_lcmp K 0 dW_519 (by rw [show g9 0 = rr.toInt64 from hg, hrr]; exact jcmp_self _) ?_
    refine ja_if_eq K (tgt := 525) True dW_520 (by decide) ⟨fun _ => trivial, fun _ => rfl⟩ (fun _ => ?_) (fun h9 => absurd trivial h9)
    refine ja_goto K (tgt := 1051) dW_525 (by decide) ?_
    refine ja_locals (lv1 := [(0, .ref b), (1, .ref (q 0)), (2, .ref (r 0)), (3, .ref (q 12)), (4, .int (nI (5 * k)))]) [0, 1, 2, 3, 4] rfl ?_
    exact ja_wide (23 + (k + 1)) (3094 + 6 * (k + 1)) (by show 23 + k + 1 + 0 + 0 ≤ _; omega) (by show 3094 + 6 * k + 6 + 0 + 0 ≤ _; omega) (hB (jsetL S (jv (xs (5 * k + 1))) (jv (xs (5 * k + 2))) (jlo (xs (5 * k + 3)))) u9 v9 g9 (jwf_M hW hc) hu9 hv9)
  · obtain ⟨hux, hx⟩ := hx
    have hcc : jcM S (xs (5 * k + 1)) (xs (5 * k + 2)) (xs (5 * k + 3)) = kk ∧ 0 < kk ∧ kk < 4 := by
      rcases hx with ⟨rfl, hc⟩ | ⟨rfl, hc⟩ <;> (simp [jEA, jES, jEO] at hm; subst hm; exact ⟨hc, by decide, by decide⟩)
    obtain ⟨hc, hk0, hk4⟩ := hcc
    have hEq : jmF v9 = nI kk := h8.1.trans (by rw [hc])
    have hv9 := h8.2.2.2 (by omega)
    have hu9 : jxR1 S u9 := (show u = u9 from hux) ▸ hu
    refine ja_icmp_eq K (tgt := 508) True dW_503 (by decide) ⟨fun _ => trivial, fun _ => hEq⟩ (fun _ => ?_) (fun h9 => absurd trivial h9)
    refine ja_iload K 5 dW_508 rfl ?_
    refine ja_if_ne K (tgt := 525) True dW_510 (by decide) ⟨fun _ => trivial, fun _ h9 => absurd ((nI_eq (a := kk) (b := 0) (by omega) (by omega)).mp h9) (by omega)⟩ (fun _ => ?_) (fun h9 => absurd trivial h9)
    refine ja_goto K (tgt := 1051) dW_525 (by decide) ?_
    refine ja_locals (lv1 := [(0, .ref b), (1, .ref (q 0)), (2, .ref (r 0)), (3, .ref (q 12)), (4, .int (nI (5 * k)))]) [0, 1, 2, 3, 4] rfl ?_
    exact ja_wide (23 + (k + 1)) (3094 + 6 * (k + 1)) (by show 23 + k + 1 + 0 + 0 ≤ _; omega) (by show 3094 + 6 * k + 6 + 0 + 0 ≤ _; omega) (hB S u9 v9 g9 hW hu9 hv9)
