set_option maxRecDepth 100000 in
set_option maxHeartbeats 4000000 in
theorem jd_simplify (l : Launch) (D : va_G) (q : Nat → Nat) (cI cZ : ClassId) (S : JS) (u : JM) (hW9 : jWf S) (hS9 : jmR1 S u)  : jkI l yX1_simplify wsX1_simplify ({ frames := 6, cells := 0, slots := 0, locals := 140 }) D vwCl (jxt cI cZ) (jmc q cI cZ) [.ref (q 0)] (jmc q cI cZ u) (fun r u1 => nI (jrk S (jN S)) = r ∧ jmR1 (jsmall S) u1 ∧ jmF u1 = nI 0) := by
  refine jkI_of (cc := cX1_simplify) (maxL := 5) (ret := (some .int)) (by decide) rfl (Nat.le_of_ble_eq_true rfl) ?_
  intro p e R s m args below meth c Q A K hn9 hR9 hQ9
  obtain ⟨rN, rT, rM, rU, rK, rP, rA, rL, rB⟩ := id hS9
  obtain ⟨wn, wt, wu, wk, wp, wl, wb⟩ := id hW9
  have hu9 : ∀ w ∈ u_ws RX1 TX1 16, w ∈ wsX1_simplify := fun w h => List.mem_cons_of_mem _ (ku_X1 w h)
  show jaW p l e R s m args below meth c 0 0 Q D vwCl A 5 (jmc q cI cZ u) [(0, .ref (q 0))] 0 []
  refine ja_aload_n K 0 dX1_simplify_0 rfl ?_
  refine ja_iconst K (nI 0) dX1_simplify_1 (by decide) ?_
  refine ja_put K (ws1 := jmc q cI cZ (jmsF (u) (nI 0))) hu9 0 rfl rfl 0 (by decide) (List.mem_cons_of_mem _ kfX1_38) rfl tyX1 tyX1_ok nmX1 rfl rfl rfl rfl (Nat.le_of_ble_eq_true rfl) dX1_simplify_2 rfl ?_
  refine ja_iconst K (nI 0) dX1_simplify_5 (by decide) ?_
  refine ja_istore_n K (lv1 := [(0, .ref (q 0)), (1, .int (nI 0))]) dX1_simplify_6 (by decide) rfl rfl ?_
  refine ja_iconst K (nI 0) dX1_simplify_7 (by decide) ?_
  refine ja_istore_n K (lv1 := [(0, .ref (q 0)), (1, .int (nI 0)), (2, .int (nI 0))]) dX1_simplify_8 (by decide) rfl rfl ?_
  have L9 : ∀ (i : Nat) (v : JM), (i ≤ 14 ∧ jmR1 (jsetB S (jbA S i)) v ∧ jmF v = nI 0) → jaW p l e R s m args below meth c 0 0 Q D vwCl A 5 (jmc q cI cZ v) [(0, .ref (q 0)), (1, .int (nI ((jrA S i)))), (2, .int (nI (i)))] 9 [] := by
    refine jl_2 (fun (i : Nat) (v : JM) => 14 - i) (fun (i : Nat) (v : JM) => i ≤ 14 ∧ jmR1 (jsetB S (jbA S i)) v ∧ jmF v = nI 0) _ ?_
    intro i v hI9 IH9
    obtain ⟨rN, rT, rM, rU, rK, rP, rA, rL, rB⟩ := id hI9.2.1
    replace rN : jmN v = nI (jN S) := rN
    replace rK : jmK v = nI (jK S) := rK
    replace rP : ∀ i, i < jK S → jmP v i = nI (jP S i) := rP
    have brA := jrA_14 S i hI9.1
    refine ja_iload_n K 2 dX1_simplify_9 rfl ?_
    refine ja_bipush K (nI 14) dX1_simplify_10 (by decide) ?_
    refine ja_icmp_ge K (tgt := 65) (14 ≤ i) dX1_simplify_12 (by decide) (nI_leI (by omega) (by omega)) (fun h12 => ?_) (fun h12 => ?_)
    · have hR1 := jR1_B2 hI9.2.1 h12
      rw [show jrA S i = jrk S (jN S) by rw [show i = 14 by omega]; exact jrA_end hW9]
      have brN : jrk S (jN S) ≤ 14 := Nat.le_trans (jct_le _ _) hW9.1
      refine ja_iconst K (nI 0) dX1_simplify_65 (by decide) ?_
      refine ja_istore_n K (lv1 := [(0, .ref (q 0)), (1, .int (nI ((jrk S (jN S))))), (2, .int (nI 0))]) dX1_simplify_66 (by decide) rfl rfl ?_
      have L67 : ∀ (n0 : Nat) (v1 : JM), (n0 ≤ jN S ∧ jmQ S n0 0 0 v1) → jaW p l e R s m args below meth c 0 0 Q D vwCl A 5 (jmc q cI cZ v1) [(0, .ref (q 0)), (1, .int (nI ((jrk S (jN S))))), (2, .int (nI (n0)))] 67 [] := by
        refine jl_2 (fun (n0 : Nat) (v1 : JM) => jN S - n0) (fun (n0 : Nat) (v1 : JM) => n0 ≤ jN S ∧ jmQ S n0 0 0 v1) _ ?_
        intro n0 v1 hI67 IH67
        obtain ⟨rN, rT, rM, rU, rK, rP, rA, rL, rB⟩ := id hI67.2.1
        replace rN : jmN v1 = nI (jN S) := rN
        replace rK : jmK v1 = nI (jK S) := rK
        replace rP : ∀ i, i < jK S → jmP v1 i = nI (jP S i) := rP
        refine ja_iload_n K 2 dX1_simplify_67 rfl ?_
        refine ja_aload_n K 0 dX1_simplify_68 rfl ?_
        refine ja_get K hu9 0 rfl rfl 1 (by decide) (List.mem_cons_of_mem _ kfX1_42) rfl (congrArg (fun z9 => some (Value.int z9)) rN) dX1_simplify_69 ?_
        refine ja_icmp_ge K (tgt := 230) ((jN S) ≤ n0) dX1_simplify_72 (by decide) (nI_leI (by omega) (by omega)) (fun h72 => ?_) (fun h72 => ?_)
        · have hQ3 : jmQ S (jN S) 0 0 v1 := by rw [← (show n0 = jN S by omega)]; exact hI67.2
          refine ja_iconst K (nI 0) dX1_simplify_230 (by decide) ?_
          refine ja_istore_n K (lv1 := [(0, .ref (q 0)), (1, .int (nI ((jrk S (jN S))))), (2, .int (nI 0))]) dX1_simplify_231 (by decide) rfl rfl ?_
          have L232 : ∀ (n1 : Nat) (ta : Nat → Int32) (sa : Nat → Int32), (n1 ≤ jN S ∧ jxPn S n1 (jxsM (jxsT v1 ta) sa)) → jaW p l e R s m args below meth c 0 0 Q D vwCl A 5 (jmc q cI cZ (jmsM (jmsT v1 ta) sa)) [(0, .ref (q 0)), (1, .int (nI ((jrk S (jN S))))), (2, .int (nI (n1)))] 232 [] := by
            refine jl_3 (fun (n1 : Nat) (ta : Nat → Int32) (sa : Nat → Int32) => jN S - n1) (fun (n1 : Nat) (ta : Nat → Int32) (sa : Nat → Int32) => n1 ≤ jN S ∧ jxPn S n1 (jxsM (jxsT v1 ta) sa)) _ ?_
            intro n1 ta sa hI232 IH232
            refine ja_iload_n K 2 dX1_simplify_232 rfl ?_
            refine ja_aload_n K 0 dX1_simplify_233 rfl ?_
            refine ja_get K hu9 0 rfl rfl 1 (by decide) (List.mem_cons_of_mem _ kfX1_42) rfl (congrArg (fun z9 => some (Value.int z9)) rN) dX1_simplify_234 ?_
            refine ja_icmp_ge K (tgt := 289) ((jN S) ≤ n1) dX1_simplify_237 (by decide) (nI_leI (by omega) (by omega)) (fun h237 => ?_) (fun h237 => ?_)
            · have hPn : jxPn S (jN S) (jxsM (jxsT v1 ta) sa) := by rw [← (show n1 = jN S by omega)]; exact hI232.2
              refine ja_aload_n K 0 dX1_simplify_289 rfl ?_
              refine ja_iload_n K 1 dX1_simplify_290 rfl ?_
              refine ja_put K (ws1 := jmc q cI cZ (jmsN (jmsM (jmsT v1 ta) sa) (nI (jrk S (jN S))))) hu9 0 rfl rfl 1 (by decide) (List.mem_cons_of_mem _ kfX1_42) rfl tyX1 tyX1_ok nmX1 rfl rfl rfl rfl (Nat.le_of_ble_eq_true rfl) dX1_simplify_291 rfl ?_
              refine ja_iconst K (nI 0) dX1_simplify_294 (by decide) ?_
              refine ja_istore_n K (lv1 := [(0, .ref (q 0)), (1, .int (nI ((jrk S (jN S))))), (2, .int (nI 0))]) dX1_simplify_295 (by decide) rfl rfl ?_
              have L296 : ∀ (k : Nat) (pa : Nat → Int32), (k ≤ 60 * jrk S (jN S) ∧ ∀ j, j < k → pa j = jmV v1 j) → jaW p l e R s m args below meth c 0 0 Q D vwCl A 5 (jmc q cI cZ (jmsU (jmsN (jmsM (jmsT v1 ta) sa) (nI (jrk S (jN S)))) pa)) [(0, .ref (q 0)), (1, .int (nI ((jrk S (jN S))))), (2, .int (nI (k)))] 296 [] := by
                refine jl_2 (fun (k : Nat) (pa : Nat → Int32) => 60 * jrk S (jN S) - k) (fun (k : Nat) (pa : Nat → Int32) => k ≤ 60 * jrk S (jN S) ∧ ∀ j, j < k → pa j = jmV v1 j) _ ?_
                intro k pa hI296 IH296
                refine ja_iload_n K 2 dX1_simplify_296 rfl ?_
                refine ja_bipush K (nI 60) dX1_simplify_297 (by decide) ?_
                refine ja_iload_n K 1 dX1_simplify_299 rfl ?_
                refine ja_imul K (nI ((60 * (jrk S (jN S))))) dX1_simplify_300 (pk_mul _ _) ?_
                refine ja_icmp_ge K (tgt := 322) ((60 * (jrk S (jN S))) ≤ k) dX1_simplify_301 (by decide) (nI_leI (by omega) (by omega)) (fun h301 => ?_) (fun h301 => ?_)
                · refine ja_iconst K (nI 0) dX1_simplify_322 (by decide) ?_
                  refine ja_istore_n K (lv1 := [(0, .ref (q 0)), (1, .int (nI ((jrk S (jN S))))), (2, .int (nI 0))]) dX1_simplify_323 (by decide) rfl rfl ?_
                  have L324 : ∀ (k2 : Nat) (mu : Nat → Int32), (k2 ≤ 112 ∧ ∀ j, j < k2 → j % 14 < jrk S (jN S) → mu j = jmW v1 j) → jaW p l e R s m args below meth c 0 0 Q D vwCl A 5 (jmc q cI cZ (jmsL (jmsU (jmsN (jmsM (jmsT v1 ta) sa) (nI (jrk S (jN S)))) pa) mu)) [(0, .ref (q 0)), (1, .int (nI ((jrk S (jN S))))), (2, .int (nI (k2)))] 324 [] := by
                    refine jl_2 (fun (k2 : Nat) (mu : Nat → Int32) => 112 - k2) (fun (k2 : Nat) (mu : Nat → Int32) => k2 ≤ 112 ∧ ∀ j, j < k2 → j % 14 < jrk S (jN S) → mu j = jmW v1 j) _ ?_
                    intro k2 mu hI324 IH324
                    refine ja_iload_n K 2 dX1_simplify_324 rfl ?_
                    refine ja_bipush K (nI 112) dX1_simplify_325 (by decide) ?_
                    refine ja_icmp_ge K (tgt := 360) (112 ≤ k2) dX1_simplify_327 (by decide) (nI_leI (by omega) (by omega)) (fun h327 => ?_) (fun h327 => ?_)
                    · refine ja_iload_n K 1 dX1_simplify_360 rfl ?_
                      exact ja_iret K (jmsL (jmsU (jmsN (jmsM (jmsT v1 ta) sa) (nI (jrk S (jN S)))) pa) mu) rfl (Nat.zero_le _) (Nat.zero_le _) dX1_simplify_361 hQ9 rfl ⟨rfl, jmQ_fin hQ3 hPn (fun j hj => hI296.2 j (by omega)) (fun j hj => hI324.2 j (by omega)) (by omega), hQ3.2.1⟩
                    · refine ja_aload_n K 0 dX1_simplify_330 rfl ?_
                      refine ja_get K hu9 0 rfl rfl 8 (by decide) (List.mem_cons_of_mem _ kfX1_26) rfl rfl dX1_simplify_331 ?_
                      refine ja_iload_n K 2 dX1_simplify_334 rfl ?_
                      refine ja_iload_n K 2 dX1_simplify_335 rfl ?_
                      refine ja_bipush K (nI 14) dX1_simplify_336 (by decide) ?_
                      refine ja_irem K (nI ((k2 % 14))) dX1_simplify_338 (by decide) (pk_rem (by omega) (by omega) (by omega)) ?_
                      refine ja_iload_n K 1 dX1_simplify_339 rfl ?_
                      refine ja_icmp_ge K (tgt := 352) ((jrk S (jN S)) ≤ (k2 % 14)) dX1_simplify_340 (by decide) (nI_leI (by omega) (by omega)) (fun h340 => ?_) (fun h340 => ?_)
                      · refine ja_iconst K (nI 0) dX1_simplify_352 (by decide) ?_
                        refine ja_iast K (ws1 := jmc q cI cZ (jmsL (jmsU (jmsN (jmsM (jmsT v1 ta) sa) (nI (jrk S (jN S)))) pa) (upd mu k2 (nI 0)))) 6 0 rfl rfl (k2) rfl (by omega) (by decide) dX1_simplify_353 rfl ?_
                        refine ja_iinc K (lv1 := [(0, .ref (q 0)), (1, .int (nI ((jrk S (jN S))))), (2, .int (nI ((k2 + 1))))]) 2 (nI ((k2 + 1))) dX1_simplify_354 rfl (ja_inc _) (by decide) rfl rfl ?_
                        refine ja_goto K (tgt := 324) dX1_simplify_357 (by decide) ?_
                        exact IH324 (k2 + 1) (upd mu k2 (nI 0)) ⟨by omega, fun j hj hm => by
                          by_cases q1 : j = k2
                          · subst q1; omega
                          · rw [pk_un q1]; exact hI324.2 j (by omega) hm⟩ (by omega)
                      · refine ja_aload_n K 0 dX1_simplify_343 rfl ?_
                        refine ja_get K hu9 0 rfl rfl 11 (by decide) (List.mem_cons_of_mem _ kfX1_35) rfl rfl dX1_simplify_344 ?_
                        refine ja_iload_n K 2 dX1_simplify_347 rfl ?_
                        refine ja_iald K (v := (jmW v1 k2)) 9 0 rfl rfl (k2) rfl (by omega) (by decide) rfl dX1_simplify_348 ?_
                        refine ja_goto K (tgt := 353) dX1_simplify_349 (by decide) ?_
                        refine ja_iast K (ws1 := jmc q cI cZ (jmsL (jmsU (jmsN (jmsM (jmsT v1 ta) sa) (nI (jrk S (jN S)))) pa) (upd mu k2 ((jmW v1 k2))))) 6 0 rfl rfl (k2) rfl (by omega) (by decide) dX1_simplify_353 rfl ?_
                        refine ja_iinc K (lv1 := [(0, .ref (q 0)), (1, .int (nI ((jrk S (jN S))))), (2, .int (nI ((k2 + 1))))]) 2 (nI ((k2 + 1))) dX1_simplify_354 rfl (ja_inc _) (by decide) rfl rfl ?_
                        refine ja_goto K (tgt := 324) dX1_simplify_357 (by decide) ?_
                        exact IH324 (k2 + 1) (upd mu k2 ((jmW v1 k2))) ⟨by omega, fun j hj hm => by
                          by_cases q1 : j = k2
                          · subst q1; exact pk_us
                          · rw [pk_un q1]; exact hI324.2 j (by omega) hm⟩ (by omega)
                  exact L324 0 (jmL v1) ⟨Nat.zero_le _, fun j hj => absurd hj (Nat.not_lt_zero _)⟩
                · refine ja_aload_n K 0 dX1_simplify_304 rfl ?_
                  refine ja_get K hu9 0 rfl rfl 4 (by decide) (List.mem_cons_of_mem _ kfX1_17) rfl rfl dX1_simplify_305 ?_
                  refine ja_iload_n K 2 dX1_simplify_308 rfl ?_
                  refine ja_aload_n K 0 dX1_simplify_309 rfl ?_
                  refine ja_get K hu9 0 rfl rfl 10 (by decide) (List.mem_cons_of_mem _ kfX1_32) rfl rfl dX1_simplify_310 ?_
                  refine ja_iload_n K 2 dX1_simplify_313 rfl ?_
                  refine ja_iald K (v := (jmV v1 k)) 8 0 rfl rfl (k) rfl (by omega) (by decide) rfl dX1_simplify_314 ?_
                  refine ja_iast K (ws1 := jmc q cI cZ (jmsU (jmsN (jmsM (jmsT v1 ta) sa) (nI (jrk S (jN S)))) (upd pa k (jmV v1 k)))) 3 0 rfl rfl (k) rfl (by omega) (by decide) dX1_simplify_315 rfl ?_
                  refine ja_iinc K (lv1 := [(0, .ref (q 0)), (1, .int (nI ((jrk S (jN S))))), (2, .int (nI ((k + 1))))]) 2 (nI ((k + 1))) dX1_simplify_316 rfl (ja_inc _) (by decide) rfl rfl ?_
                  refine ja_goto K (tgt := 296) dX1_simplify_319 (by decide) ?_
                  exact IH296 (k + 1) (upd pa k (jmV v1 k)) ⟨by omega, fun j hj => by
                    by_cases q1 : j = k
                    · subst q1; exact pk_us
                    · rw [pk_un q1]; exact hI296.2 j (by omega)⟩ (by omega)
              exact L296 0 (jmU v1) ⟨Nat.zero_le _, fun j hj => absurd hj (Nat.not_lt_zero _)⟩
            · refine ja_aload_n K 0 dX1_simplify_240 rfl ?_
              refine ja_get K hu9 0 rfl rfl 9 (by decide) (List.mem_cons_of_mem _ kfX1_29) rfl rfl dX1_simplify_241 ?_
              refine ja_iload_n K 2 dX1_simplify_244 rfl ?_
              refine ja_iald K (v := jeI (jB (jsmall S) n1)) 7 0 rfl rfl (n1) rfl (by omega) (by decide) (rB _ (by omega)) dX1_simplify_245 ?_
              refine ja_if_lt K (tgt := 283) (jB (jsmall S) n1 = none) dX1_simplify_246 (by decide) (jeI_lt0 (fun p9 h9 => by have := ((jsmall_wf hW9).2.2.2.2.2.2 _ _ h9); omega)) (fun h246 => ?_) (fun h246 => ?_)
              · try rw [h246]
                have hs : jstay S n1 = false := by
                  cases q1 : jstay S n1 with
                  | false => rfl
                  | true => rw [jsm_B (by omega) q1] at h246; cases h246
                refine ja_iinc K (lv1 := [(0, .ref (q 0)), (1, .int (nI ((jrk S (jN S))))), (2, .int (nI ((n1 + 1))))]) 2 (nI ((n1 + 1))) dX1_simplify_283 rfl (ja_inc _) (by decide) rfl rfl ?_
                refine ja_goto K (tgt := 232) dX1_simplify_286 (by decide) ?_
                exact IH232 (n1 + 1) ta sa ⟨by omega, jPn_go hI232.2 hs⟩ (by omega)
              · obtain ⟨y246, ey246⟩ := Option.ne_none_iff_exists'.mp h246
                try rw [ey246]
                have by246 := ((jsmall_wf hW9).2.2.2.2.2.2 _ _ ey246)
                have hs : jstay S n1 = true := by
                  cases q1 : jstay S n1 with
                  | true => rfl
                  | false => rw [jsm_Bn (by simp [q1])] at ey246; cases ey246
                have hr := jrk_lt hW9 (c := n1) (by omega) hs
                refine ja_aload_n K 0 dX1_simplify_249 rfl ?_
                refine ja_get K hu9 0 rfl rfl 2 (by decide) (List.mem_cons_of_mem _ kfX1_7) rfl rfl dX1_simplify_250 ?_
                refine ja_aload_n K 0 dX1_simplify_253 rfl ?_
                refine ja_get K hu9 0 rfl rfl 9 (by decide) (List.mem_cons_of_mem _ kfX1_29) rfl rfl dX1_simplify_254 ?_
                refine ja_iload_n K 2 dX1_simplify_257 rfl ?_
                refine ja_iald K (v := nI ((jrk S n1))) 7 0 rfl rfl (n1) rfl (by omega) (by decide) (by have h9 := rB n1 (by omega); rw [show jB (jS1 S) n1 = jB (jsmall S) n1 from rfl, jsm_B (by omega) hs] at h9; exact h9) dX1_simplify_258 ?_
                refine ja_aload_n K 0 dX1_simplify_259 rfl ?_
                refine ja_get K hu9 0 rfl rfl 2 (by decide) (List.mem_cons_of_mem _ kfX1_7) rfl rfl dX1_simplify_260 ?_
                refine ja_iload_n K 2 dX1_simplify_263 rfl ?_
                refine ja_iald K (v := nI ((jT S n1))) 1 0 rfl rfl (n1) rfl (by omega) (by decide) (hI232.2.2.2.1 n1 (Nat.le_refl _) (by omega)) dX1_simplify_264 ?_
                refine ja_iast K (ws1 := jmc q cI cZ (jmsM (jmsT v1 (upd ta (jrk S n1) (nI (jT S n1)))) sa)) 1 0 rfl rfl ((jrk S n1)) rfl (by omega) (by decide) dX1_simplify_265 rfl ?_
                refine ja_aload_n K 0 dX1_simplify_266 rfl ?_
                refine ja_get K hu9 0 rfl rfl 3 (by decide) (List.mem_cons_of_mem _ kfX1_13) rfl rfl dX1_simplify_267 ?_
                refine ja_aload_n K 0 dX1_simplify_270 rfl ?_
                refine ja_get K hu9 0 rfl rfl 9 (by decide) (List.mem_cons_of_mem _ kfX1_29) rfl rfl dX1_simplify_271 ?_
                refine ja_iload_n K 2 dX1_simplify_274 rfl ?_
                refine ja_iald K (v := nI ((jrk S n1))) 7 0 rfl rfl (n1) rfl (by omega) (by decide) (by have h9 := rB n1 (by omega); rw [show jB (jS1 S) n1 = jB (jsmall S) n1 from rfl, jsm_B (by omega) hs] at h9; exact h9) dX1_simplify_275 ?_
                refine ja_aload_n K 0 dX1_simplify_276 rfl ?_
                refine ja_get K hu9 0 rfl rfl 3 (by decide) (List.mem_cons_of_mem _ kfX1_13) rfl rfl dX1_simplify_277 ?_
                refine ja_iload_n K 2 dX1_simplify_280 rfl ?_
                refine ja_zald K (v := jbI (jM S n1)) 2 1 rfl rfl (n1) rfl (by omega) (by decide) (hI232.2.2.2.2 n1 (Nat.le_refl _) (by omega)) dX1_simplify_281 ?_
                refine ja_zast K (ws1 := jmc q cI cZ (jmsM (jmsT v1 (upd ta (jrk S n1) (nI (jT S n1)))) (upd sa (jrk S n1) (jbI (jM S n1))))) 2 1 rfl rfl ((jrk S n1)) (jbI_nar _) rfl (by omega) (by decide) dX1_simplify_282 rfl ?_
                refine ja_iinc K (lv1 := [(0, .ref (q 0)), (1, .int (nI ((jrk S (jN S))))), (2, .int (nI ((n1 + 1))))]) 2 (nI ((n1 + 1))) dX1_simplify_283 rfl (ja_inc _) (by decide) rfl rfl ?_
                refine ja_goto K (tgt := 232) dX1_simplify_286 (by decide) ?_
                exact IH232 (n1 + 1) (upd ta (jrk S n1) (nI (jT S n1))) (upd sa (jrk S n1) (jbI (jM S n1))) ⟨by omega, jPn_stay hI232.2 (by omega) hs rfl rfl⟩ (by omega)
          exact L232 0 (jmT v1) (jmM v1) ⟨Nat.zero_le _, jPn_0 rT rM⟩
        · refine ja_iconst K (nI 0) dX1_simplify_75 (by decide) ?_
          refine ja_istore_n K (lv1 := [(0, .ref (q 0)), (1, .int (nI ((jrk S (jN S))))), (2, .int (nI (n0))), (3, .int (nI 0))]) dX1_simplify_76 (by decide) rfl rfl ?_
          have L77 : ∀ (x : Nat) (v2 : JM), (x ≤ 60 ∧ jmQ S n0 x 0 v2) → jaW p l e R s m args below meth c 0 0 Q D vwCl A 5 (jmc q cI cZ v2) [(0, .ref (q 0)), (1, .int (nI ((jrk S (jN S))))), (2, .int (nI (n0))), (3, .int (nI (x)))] 77 [] := by
            refine jl_2 (fun (x : Nat) (v2 : JM) => 60 - x) (fun (x : Nat) (v2 : JM) => x ≤ 60 ∧ jmQ S n0 x 0 v2) _ ?_
            intro x v2 hI77 IH77
            obtain ⟨rN, rT, rM, rU, rK, rP, rA, rL, rB⟩ := id hI77.2.1
            replace rN : jmN v2 = nI (jN S) := rN
            replace rK : jmK v2 = nI (jK S) := rK
            replace rP : ∀ i, i < jK S → jmP v2 i = nI (jP S i) := rP
            refine ja_iload_n K 3 dX1_simplify_77 rfl ?_
            refine ja_bipush K (nI 60) dX1_simplify_78 (by decide) ?_
            refine ja_icmp_ge K (tgt := 153) (60 ≤ x) dX1_simplify_80 (by decide) (nI_leI (by omega) (by omega)) (fun h80 => ?_) (fun h80 => ?_)
            · have hQ1 : jmQ S n0 60 0 v2 := by rw [← (show x = 60 by omega)]; exact hI77.2
              refine ja_iconst K (nI 0) dX1_simplify_153 (by decide) ?_
              refine ja_istore_n K (lv1 := [(0, .ref (q 0)), (1, .int (nI ((jrk S (jN S))))), (2, .int (nI (n0))), (3, .int (nI 0))]) dX1_simplify_154 (by decide) rfl rfl ?_
              have L155 : ∀ (i1 : Nat) (v3 : JM), (i1 ≤ 8 ∧ jmQ S n0 60 i1 v3) → jaW p l e R s m args below meth c 0 0 Q D vwCl A 5 (jmc q cI cZ v3) [(0, .ref (q 0)), (1, .int (nI ((jrk S (jN S))))), (2, .int (nI (n0))), (3, .int (nI (i1)))] 155 [] := by
                refine jl_2 (fun (i1 : Nat) (v3 : JM) => 8 - i1) (fun (i1 : Nat) (v3 : JM) => i1 ≤ 8 ∧ jmQ S n0 60 i1 v3) _ ?_
                intro i1 v3 hI155 IH155
                obtain ⟨rN, rT, rM, rU, rK, rP, rA, rL, rB⟩ := id hI155.2.1
                replace rN : jmN v3 = nI (jN S) := rN
                replace rK : jmK v3 = nI (jK S) := rK
                replace rP : ∀ i, i < jK S → jmP v3 i = nI (jP S i) := rP
                refine ja_iload_n K 3 dX1_simplify_155 rfl ?_
                refine ja_bipush K (nI 8) dX1_simplify_156 (by decide) ?_
                refine ja_icmp_ge K (tgt := 224) (8 ≤ i1) dX1_simplify_158 (by decide) (nI_leI (by omega) (by omega)) (fun h158 => ?_) (fun h158 => ?_)
                · have hQ2 : jmQ S n0 60 8 v3 := by rw [← (show i1 = 8 by omega)]; exact hI155.2
                  refine ja_iinc K (lv1 := [(0, .ref (q 0)), (1, .int (nI ((jrk S (jN S))))), (2, .int (nI ((n0 + 1)))), (3, .int (nI (i1)))]) 2 (nI ((n0 + 1))) dX1_simplify_224 rfl (ja_inc _) (by decide) rfl rfl ?_
                  refine ja_goto K (tgt := 67) dX1_simplify_227 (by decide) ?_
                  refine ja_locals (lv1 := [(0, .ref (q 0)), (1, .int (nI ((jrk S (jN S))))), (2, .int (nI ((n0 + 1))))]) [0, 1, 2] rfl ?_
                  exact IH67 (n0 + 1) v3 ⟨by omega, jmQ_end hQ2⟩ (by omega)
                · refine ja_aload_n K 0 dX1_simplify_161 rfl ?_
                  refine ja_get K hu9 0 rfl rfl 9 (by decide) (List.mem_cons_of_mem _ kfX1_29) rfl rfl dX1_simplify_162 ?_
                  refine ja_iload_n K 2 dX1_simplify_165 rfl ?_
                  refine ja_iald K (v := jeI (jB (jsmall S) n0)) 7 0 rfl rfl (n0) rfl (by omega) (by decide) (rB _ (by omega)) dX1_simplify_166 ?_
                  refine ja_if_lt K (tgt := 224) (jB (jsmall S) n0 = none) dX1_simplify_167 (by decide) (jeI_lt0 (fun p9 h9 => by have := ((jsmall_wf hW9).2.2.2.2.2.2 _ _ h9); omega)) (fun h167 => ?_) (fun h167 => ?_)
                  · try rw [h167]
                    have hs : jstay S n0 = false := by
                      cases q1 : jstay S n0 with
                      | false => rfl
                      | true => rw [jsm_B (by omega) q1] at h167; cases h167
                    have hQ2 : jmQ S n0 60 8 v3 := jmQ_n hI155.2 hs _ _
                    refine ja_iinc K (lv1 := [(0, .ref (q 0)), (1, .int (nI ((jrk S (jN S))))), (2, .int (nI ((n0 + 1)))), (3, .int (nI (i1)))]) 2 (nI ((n0 + 1))) dX1_simplify_224 rfl (ja_inc _) (by decide) rfl rfl ?_
                    refine ja_goto K (tgt := 67) dX1_simplify_227 (by decide) ?_
                    refine ja_locals (lv1 := [(0, .ref (q 0)), (1, .int (nI ((jrk S (jN S))))), (2, .int (nI ((n0 + 1))))]) [0, 1, 2] rfl ?_
                    exact IH67 (n0 + 1) v3 ⟨by omega, jmQ_end hQ2⟩ (by omega)
                  · obtain ⟨y167, ey167⟩ := Option.ne_none_iff_exists'.mp h167
                    try rw [ey167]
                    have by167 := ((jsmall_wf hW9).2.2.2.2.2.2 _ _ ey167)
                    have hs : jstay S n0 = true := by
                      cases q1 : jstay S n0 with
                      | true => rfl
                      | false => rw [jsm_Bn (by simp [q1])] at ey167; cases ey167
                    have hr := jrk_lt hW9 (c := n0) (by omega) hs
                    refine ja_aload_n K 0 dX1_simplify_170 rfl ?_
                    refine ja_get K hu9 0 rfl rfl 11 (by decide) (List.mem_cons_of_mem _ kfX1_35) rfl rfl dX1_simplify_171 ?_
                    refine ja_bipush K (nI 14) dX1_simplify_174 (by decide) ?_
                    refine ja_iload_n K 3 dX1_simplify_176 rfl ?_
                    refine ja_imul K (nI ((14 * i1))) dX1_simplify_177 (pk_mul _ _) ?_
                    refine ja_aload_n K 0 dX1_simplify_178 rfl ?_
                    refine ja_get K hu9 0 rfl rfl 9 (by decide) (List.mem_cons_of_mem _ kfX1_29) rfl rfl dX1_simplify_179 ?_
                    refine ja_iload_n K 2 dX1_simplify_182 rfl ?_
                    refine ja_iald K (v := nI ((jrk S n0))) 7 0 rfl rfl (n0) rfl (by omega) (by decide) (by have h9 := rB n0 (by omega); rw [show jB (jS1 S) n0 = jB (jsmall S) n0 from rfl, jsm_B (by omega) hs] at h9; exact h9) dX1_simplify_183 ?_
                    refine ja_iadd K (nI (((14 * i1) + (jrk S n0)))) dX1_simplify_184 (nI_add _ _) ?_
                    refine ja_iload_n K 3 dX1_simplify_185 rfl ?_
                    refine ja_aload_n K 0 dX1_simplify_186 rfl ?_
                    refine ja_get K hu9 0 rfl rfl 5 (by decide) (List.mem_cons_of_mem _ kfX1_45) rfl (congrArg (fun z9 => some (Value.int z9)) rK) dX1_simplify_187 ?_
                    refine ja_icmp_ge K (tgt := 216) ((jK S) ≤ i1) dX1_simplify_190 (by decide) (nI_leI (by omega) (by omega)) (fun h190 => ?_) (fun h190 => ?_)
                    · refine ja_iconst K (nI 0) dX1_simplify_216 (by decide) ?_
                      refine ja_iast K (ws1 := jmc q cI cZ (jmsW v3 (upd (jmW v3) (14 * i1 + jrk S n0) (nI 0)))) 9 0 rfl rfl (((14 * i1) + (jrk S n0))) rfl (by omega) (by decide) dX1_simplify_217 rfl ?_
                      refine ja_iinc K (lv1 := [(0, .ref (q 0)), (1, .int (nI ((jrk S (jN S))))), (2, .int (nI (n0))), (3, .int (nI ((i1 + 1))))]) 3 (nI ((i1 + 1))) dX1_simplify_218 rfl (ja_inc _) (by decide) rfl rfl ?_
                      refine ja_goto K (tgt := 155) dX1_simplify_221 (by decide) ?_
                      exact IH155 (i1 + 1) (jmsW v3 (upd (jmW v3) (14 * i1 + jrk S n0) (nI 0))) ⟨by omega, jmQ_W hI155.2 (by omega) (jmx_0 (by omega))⟩ (by omega)
                    · have bp := (wp i1 (by omega)).1
                      refine ja_aload_n K 0 dX1_simplify_193 rfl ?_
                      refine ja_iload_n K 2 dX1_simplify_194 rfl ?_
                      refine ja_aload_n K 0 dX1_simplify_195 rfl ?_
                      refine ja_get K hu9 0 rfl rfl 6 (by decide) (List.mem_cons_of_mem _ kfX1_20) rfl rfl dX1_simplify_196 ?_
                      refine ja_iload_n K 3 dX1_simplify_199 rfl ?_
                      refine ja_iald K (v := nI ((jP S (i1)))) 4 0 rfl rfl (i1) rfl (by omega) (by decide) (rP _ (by omega)) dX1_simplify_200 ?_
                      refine ja_callVI K (q0 := 0) (qc := (RX1, TX1, 16)) (st := [.int (nI (((14 * i1) + (jrk S n0)))), .ref (q 9)]) [.int (nI (n0)), .int (nI ((jP S (i1))))] (jd_matters l D q cI cZ (jS1 S) (v3) (jS1_wf hW9) hI155.2.1 (n0) ((jP S (i1))) (show n0 < jN S by omega) (by omega)) (cwV 2 K.1.2.2.2.2 (gX1_X1_matters _) rfl rfl rfl (by decide +kernel) (by rw [hR9]; exact ⟨Nat.le_of_ble_eq_true rfl, Nat.le_of_ble_eq_true rfl⟩)) rfl rfl rfl rfl rfl (Nat.le_of_ble_eq_true rfl) dX1_simplify_201 (by rw [hR9]; exact ⟨Nat.le_of_ble_eq_true rfl, Nat.le_of_ble_eq_true rfl⟩) (fun r9 u9 h9 => ?_)
                      rw [jsetB_mat] at h9
                      obtain ⟨rfl, rfl⟩ := h9
                      refine ja_if_eq K (tgt := 216) (jmatS S ((jP S (i1))) (n0) = false) dX1_simplify_204 (by decide) (jbI_ne _) (fun h204 => ?_) (fun h204 => ?_)
                      · refine ja_iconst K (nI 0) dX1_simplify_216 (by decide) ?_
                        refine ja_iast K (ws1 := jmc q cI cZ (jmsW v3 (upd (jmW v3) (14 * i1 + jrk S n0) (nI 0)))) 9 0 rfl rfl (((14 * i1) + (jrk S n0))) rfl (by omega) (by decide) dX1_simplify_217 rfl ?_
                        refine ja_iinc K (lv1 := [(0, .ref (q 0)), (1, .int (nI ((jrk S (jN S))))), (2, .int (nI (n0))), (3, .int (nI ((i1 + 1))))]) 3 (nI ((i1 + 1))) dX1_simplify_218 rfl (ja_inc _) (by decide) rfl rfl ?_
                        refine ja_goto K (tgt := 155) dX1_simplify_221 (by decide) ?_
                        exact IH155 (i1 + 1) (jmsW v3 (upd (jmW v3) (14 * i1 + jrk S n0) (nI 0))) ⟨by omega, jmQ_W hI155.2 (by omega) (jmx_1 h204)⟩ (by omega)
                      · replace h204 : jmatS S (jP S i1) n0 = true := by simpa using h204
                        refine ja_aload_n K 0 dX1_simplify_207 rfl ?_
                        refine ja_iload_n K 2 dX1_simplify_208 rfl ?_
                        refine ja_iload_n K 3 dX1_simplify_209 rfl ?_
                        refine ja_callVI K (q0 := 0) (qc := (RX1, TX1, 16)) (st := [.int (nI (((14 * i1) + (jrk S n0)))), .ref (q 9)]) [.int (nI (n0)), .int (nI (i1))] (jd_comes l D q cI cZ (jS1 S) (v3) (jS1_wf hW9) hI155.2.1 (n0) (i1) (show n0 < jN S by omega) (show i1 < jK S by omega)) (cwV 2 K.1.2.2.2.2 (gX1_X1_comes _) rfl rfl rfl (by decide +kernel) (by rw [hR9]; exact ⟨Nat.le_of_ble_eq_true rfl, Nat.le_of_ble_eq_true rfl⟩)) rfl rfl rfl rfl rfl (Nat.le_of_ble_eq_true rfl) dX1_simplify_210 (by rw [hR9]; exact ⟨Nat.le_of_ble_eq_true rfl, Nat.le_of_ble_eq_true rfl⟩) (fun r9 u9 h9 => ?_)
                        rw [jsetB_come] at h9
                        obtain ⟨rfl, rfl⟩ := h9
                        refine ja_goto K (tgt := 217) dX1_simplify_213 (by decide) ?_
                        refine ja_iast K (ws1 := jmc q cI cZ (jmsW v3 (upd (jmW v3) (14 * i1 + jrk S n0) (nI ((joN (jcome S (i1) (n0)))))))) 9 0 rfl rfl (((14 * i1) + (jrk S n0))) rfl (by omega) (by decide) dX1_simplify_217 rfl ?_
                        refine ja_iinc K (lv1 := [(0, .ref (q 0)), (1, .int (nI ((jrk S (jN S))))), (2, .int (nI (n0))), (3, .int (nI ((i1 + 1))))]) 3 (nI ((i1 + 1))) dX1_simplify_218 rfl (ja_inc _) (by decide) rfl rfl ?_
                        refine ja_goto K (tgt := 155) dX1_simplify_221 (by decide) ?_
                        exact IH155 (i1 + 1) (jmsW v3 (upd (jmW v3) (14 * i1 + jrk S n0) (nI ((joN (jcome S (i1) (n0))))))) ⟨by omega, jmQ_W hI155.2 (by omega) (jmx_2 (by omega) h204)⟩ (by omega)
              exact L155 0 v2 ⟨Nat.zero_le _, hQ1⟩
            · refine ja_aload_n K 0 dX1_simplify_83 rfl ?_
              refine ja_get K hu9 0 rfl rfl 9 (by decide) (List.mem_cons_of_mem _ kfX1_29) rfl rfl dX1_simplify_84 ?_
              refine ja_iload_n K 2 dX1_simplify_87 rfl ?_
              refine ja_iald K (v := jeI (jB (jsmall S) n0)) 7 0 rfl rfl (n0) rfl (by omega) (by decide) (rB _ (by omega)) dX1_simplify_88 ?_
              refine ja_if_lt K (tgt := 153) (jB (jsmall S) n0 = none) dX1_simplify_89 (by decide) (jeI_lt0 (fun p9 h9 => by have := ((jsmall_wf hW9).2.2.2.2.2.2 _ _ h9); omega)) (fun h89 => ?_) (fun h89 => ?_)
              · try rw [h89]
                have hs : jstay S n0 = false := by
                  cases q1 : jstay S n0 with
                  | false => rfl
                  | true => rw [jsm_B (by omega) q1] at h89; cases h89
                have hQ1 : jmQ S n0 60 0 v2 := jmQ_n hI77.2 hs _ _
                refine ja_iconst K (nI 0) dX1_simplify_153 (by decide) ?_
                refine ja_istore_n K (lv1 := [(0, .ref (q 0)), (1, .int (nI ((jrk S (jN S))))), (2, .int (nI (n0))), (3, .int (nI 0))]) dX1_simplify_154 (by decide) rfl rfl ?_
                have L155 : ∀ (i1 : Nat) (v3 : JM), (i1 ≤ 8 ∧ jmQ S n0 60 i1 v3) → jaW p l e R s m args below meth c 0 0 Q D vwCl A 5 (jmc q cI cZ v3) [(0, .ref (q 0)), (1, .int (nI ((jrk S (jN S))))), (2, .int (nI (n0))), (3, .int (nI (i1)))] 155 [] := by
                  refine jl_2 (fun (i1 : Nat) (v3 : JM) => 8 - i1) (fun (i1 : Nat) (v3 : JM) => i1 ≤ 8 ∧ jmQ S n0 60 i1 v3) _ ?_
                  intro i1 v3 hI155 IH155
                  obtain ⟨rN, rT, rM, rU, rK, rP, rA, rL, rB⟩ := id hI155.2.1
                  replace rN : jmN v3 = nI (jN S) := rN
                  replace rK : jmK v3 = nI (jK S) := rK
                  replace rP : ∀ i, i < jK S → jmP v3 i = nI (jP S i) := rP
                  refine ja_iload_n K 3 dX1_simplify_155 rfl ?_
                  refine ja_bipush K (nI 8) dX1_simplify_156 (by decide) ?_
                  refine ja_icmp_ge K (tgt := 224) (8 ≤ i1) dX1_simplify_158 (by decide) (nI_leI (by omega) (by omega)) (fun h158 => ?_) (fun h158 => ?_)
                  · have hQ2 : jmQ S n0 60 8 v3 := by rw [← (show i1 = 8 by omega)]; exact hI155.2
                    refine ja_iinc K (lv1 := [(0, .ref (q 0)), (1, .int (nI ((jrk S (jN S))))), (2, .int (nI ((n0 + 1)))), (3, .int (nI (i1)))]) 2 (nI ((n0 + 1))) dX1_simplify_224 rfl (ja_inc _) (by decide) rfl rfl ?_
                    refine ja_goto K (tgt := 67) dX1_simplify_227 (by decide) ?_
                    refine ja_locals (lv1 := [(0, .ref (q 0)), (1, .int (nI ((jrk S (jN S))))), (2, .int (nI ((n0 + 1))))]) [0, 1, 2] rfl ?_
                    exact IH67 (n0 + 1) v3 ⟨by omega, jmQ_end hQ2⟩ (by omega)
                  · refine ja_aload_n K 0 dX1_simplify_161 rfl ?_
                    refine ja_get K hu9 0 rfl rfl 9 (by decide) (List.mem_cons_of_mem _ kfX1_29) rfl rfl dX1_simplify_162 ?_
                    refine ja_iload_n K 2 dX1_simplify_165 rfl ?_
                    refine ja_iald K (v := jeI (jB (jsmall S) n0)) 7 0 rfl rfl (n0) rfl (by omega) (by decide) (rB _ (by omega)) dX1_simplify_166 ?_
                    refine ja_if_lt K (tgt := 224) (jB (jsmall S) n0 = none) dX1_simplify_167 (by decide) (jeI_lt0 (fun p9 h9 => by have := ((jsmall_wf hW9).2.2.2.2.2.2 _ _ h9); omega)) (fun h167 => ?_) (fun h167 => ?_)
                    · try rw [h167]
                      have hs : jstay S n0 = false := by
                        cases q1 : jstay S n0 with
                        | false => rfl
                        | true => rw [jsm_B (by omega) q1] at h167; cases h167
                      have hQ2 : jmQ S n0 60 8 v3 := jmQ_n hI155.2 hs _ _
                      refine ja_iinc K (lv1 := [(0, .ref (q 0)), (1, .int (nI ((jrk S (jN S))))), (2, .int (nI ((n0 + 1)))), (3, .int (nI (i1)))]) 2 (nI ((n0 + 1))) dX1_simplify_224 rfl (ja_inc _) (by decide) rfl rfl ?_
                      refine ja_goto K (tgt := 67) dX1_simplify_227 (by decide) ?_
                      refine ja_locals (lv1 := [(0, .ref (q 0)), (1, .int (nI ((jrk S (jN S))))), (2, .int (nI ((n0 + 1))))]) [0, 1, 2] rfl ?_
                      exact IH67 (n0 + 1) v3 ⟨by omega, jmQ_end hQ2⟩ (by omega)
                    · obtain ⟨y167, ey167⟩ := Option.ne_none_iff_exists'.mp h167
                      try rw [ey167]
                      have by167 := ((jsmall_wf hW9).2.2.2.2.2.2 _ _ ey167)
                      have hs : jstay S n0 = true := by
                        cases q1 : jstay S n0 with
                        | true => rfl
                        | false => rw [jsm_Bn (by simp [q1])] at ey167; cases ey167
                      have hr := jrk_lt hW9 (c := n0) (by omega) hs
                      refine ja_aload_n K 0 dX1_simplify_170 rfl ?_
                      refine ja_get K hu9 0 rfl rfl 11 (by decide) (List.mem_cons_of_mem _ kfX1_35) rfl rfl dX1_simplify_171 ?_
                      refine ja_bipush K (nI 14) dX1_simplify_174 (by decide) ?_
                      refine ja_iload_n K 3 dX1_simplify_176 rfl ?_
                      refine ja_imul K (nI ((14 * i1))) dX1_simplify_177 (pk_mul _ _) ?_
                      refine ja_aload_n K 0 dX1_simplify_178 rfl ?_
                      refine ja_get K hu9 0 rfl rfl 9 (by decide) (List.mem_cons_of_mem _ kfX1_29) rfl rfl dX1_simplify_179 ?_
                      refine ja_iload_n K 2 dX1_simplify_182 rfl ?_
                      refine ja_iald K (v := nI ((jrk S n0))) 7 0 rfl rfl (n0) rfl (by omega) (by decide) (by have h9 := rB n0 (by omega); rw [show jB (jS1 S) n0 = jB (jsmall S) n0 from rfl, jsm_B (by omega) hs] at h9; exact h9) dX1_simplify_183 ?_
                      refine ja_iadd K (nI (((14 * i1) + (jrk S n0)))) dX1_simplify_184 (nI_add _ _) ?_
                      refine ja_iload_n K 3 dX1_simplify_185 rfl ?_
                      refine ja_aload_n K 0 dX1_simplify_186 rfl ?_
                      refine ja_get K hu9 0 rfl rfl 5 (by decide) (List.mem_cons_of_mem _ kfX1_45) rfl (congrArg (fun z9 => some (Value.int z9)) rK) dX1_simplify_187 ?_
                      refine ja_icmp_ge K (tgt := 216) ((jK S) ≤ i1) dX1_simplify_190 (by decide) (nI_leI (by omega) (by omega)) (fun h190 => ?_) (fun h190 => ?_)
                      · refine ja_iconst K (nI 0) dX1_simplify_216 (by decide) ?_
                        refine ja_iast K (ws1 := jmc q cI cZ (jmsW v3 (upd (jmW v3) (14 * i1 + jrk S n0) (nI 0)))) 9 0 rfl rfl (((14 * i1) + (jrk S n0))) rfl (by omega) (by decide) dX1_simplify_217 rfl ?_
                        refine ja_iinc K (lv1 := [(0, .ref (q 0)), (1, .int (nI ((jrk S (jN S))))), (2, .int (nI (n0))), (3, .int (nI ((i1 + 1))))]) 3 (nI ((i1 + 1))) dX1_simplify_218 rfl (ja_inc _) (by decide) rfl rfl ?_
                        refine ja_goto K (tgt := 155) dX1_simplify_221 (by decide) ?_
                        exact IH155 (i1 + 1) (jmsW v3 (upd (jmW v3) (14 * i1 + jrk S n0) (nI 0))) ⟨by omega, jmQ_W hI155.2 (by omega) (jmx_0 (by omega))⟩ (by omega)
                      · have bp := (wp i1 (by omega)).1
                        refine ja_aload_n K 0 dX1_simplify_193 rfl ?_
                        refine ja_iload_n K 2 dX1_simplify_194 rfl ?_
                        refine ja_aload_n K 0 dX1_simplify_195 rfl ?_
                        refine ja_get K hu9 0 rfl rfl 6 (by decide) (List.mem_cons_of_mem _ kfX1_20) rfl rfl dX1_simplify_196 ?_
                        refine ja_iload_n K 3 dX1_simplify_199 rfl ?_
                        refine ja_iald K (v := nI ((jP S (i1)))) 4 0 rfl rfl (i1) rfl (by omega) (by decide) (rP _ (by omega)) dX1_simplify_200 ?_
                        refine ja_callVI K (q0 := 0) (qc := (RX1, TX1, 16)) (st := [.int (nI (((14 * i1) + (jrk S n0)))), .ref (q 9)]) [.int (nI (n0)), .int (nI ((jP S (i1))))] (jd_matters l D q cI cZ (jS1 S) (v3) (jS1_wf hW9) hI155.2.1 (n0) ((jP S (i1))) (show n0 < jN S by omega) (by omega)) (cwV 2 K.1.2.2.2.2 (gX1_X1_matters _) rfl rfl rfl (by decide +kernel) (by rw [hR9]; exact ⟨Nat.le_of_ble_eq_true rfl, Nat.le_of_ble_eq_true rfl⟩)) rfl rfl rfl rfl rfl (Nat.le_of_ble_eq_true rfl) dX1_simplify_201 (by rw [hR9]; exact ⟨Nat.le_of_ble_eq_true rfl, Nat.le_of_ble_eq_true rfl⟩) (fun r9 u9 h9 => ?_)
                        rw [jsetB_mat] at h9
                        obtain ⟨rfl, rfl⟩ := h9
                        refine ja_if_eq K (tgt := 216) (jmatS S ((jP S (i1))) (n0) = false) dX1_simplify_204 (by decide) (jbI_ne _) (fun h204 => ?_) (fun h204 => ?_)
                        · refine ja_iconst K (nI 0) dX1_simplify_216 (by decide) ?_
                          refine ja_iast K (ws1 := jmc q cI cZ (jmsW v3 (upd (jmW v3) (14 * i1 + jrk S n0) (nI 0)))) 9 0 rfl rfl (((14 * i1) + (jrk S n0))) rfl (by omega) (by decide) dX1_simplify_217 rfl ?_
                          refine ja_iinc K (lv1 := [(0, .ref (q 0)), (1, .int (nI ((jrk S (jN S))))), (2, .int (nI (n0))), (3, .int (nI ((i1 + 1))))]) 3 (nI ((i1 + 1))) dX1_simplify_218 rfl (ja_inc _) (by decide) rfl rfl ?_
                          refine ja_goto K (tgt := 155) dX1_simplify_221 (by decide) ?_
                          exact IH155 (i1 + 1) (jmsW v3 (upd (jmW v3) (14 * i1 + jrk S n0) (nI 0))) ⟨by omega, jmQ_W hI155.2 (by omega) (jmx_1 h204)⟩ (by omega)
                        · replace h204 : jmatS S (jP S i1) n0 = true := by simpa using h204
                          refine ja_aload_n K 0 dX1_simplify_207 rfl ?_
                          refine ja_iload_n K 2 dX1_simplify_208 rfl ?_
                          refine ja_iload_n K 3 dX1_simplify_209 rfl ?_
                          refine ja_callVI K (q0 := 0) (qc := (RX1, TX1, 16)) (st := [.int (nI (((14 * i1) + (jrk S n0)))), .ref (q 9)]) [.int (nI (n0)), .int (nI (i1))] (jd_comes l D q cI cZ (jS1 S) (v3) (jS1_wf hW9) hI155.2.1 (n0) (i1) (show n0 < jN S by omega) (show i1 < jK S by omega)) (cwV 2 K.1.2.2.2.2 (gX1_X1_comes _) rfl rfl rfl (by decide +kernel) (by rw [hR9]; exact ⟨Nat.le_of_ble_eq_true rfl, Nat.le_of_ble_eq_true rfl⟩)) rfl rfl rfl rfl rfl (Nat.le_of_ble_eq_true rfl) dX1_simplify_210 (by rw [hR9]; exact ⟨Nat.le_of_ble_eq_true rfl, Nat.le_of_ble_eq_true rfl⟩) (fun r9 u9 h9 => ?_)
                          rw [jsetB_come] at h9
                          obtain ⟨rfl, rfl⟩ := h9
                          refine ja_goto K (tgt := 217) dX1_simplify_213 (by decide) ?_
                          refine ja_iast K (ws1 := jmc q cI cZ (jmsW v3 (upd (jmW v3) (14 * i1 + jrk S n0) (nI ((joN (jcome S (i1) (n0)))))))) 9 0 rfl rfl (((14 * i1) + (jrk S n0))) rfl (by omega) (by decide) dX1_simplify_217 rfl ?_
                          refine ja_iinc K (lv1 := [(0, .ref (q 0)), (1, .int (nI ((jrk S (jN S))))), (2, .int (nI (n0))), (3, .int (nI ((i1 + 1))))]) 3 (nI ((i1 + 1))) dX1_simplify_218 rfl (ja_inc _) (by decide) rfl rfl ?_
                          refine ja_goto K (tgt := 155) dX1_simplify_221 (by decide) ?_
                          exact IH155 (i1 + 1) (jmsW v3 (upd (jmW v3) (14 * i1 + jrk S n0) (nI ((joN (jcome S (i1) (n0))))))) ⟨by omega, jmQ_W hI155.2 (by omega) (jmx_2 (by omega) h204)⟩ (by omega)
                exact L155 0 v2 ⟨Nat.zero_le _, hQ1⟩
              · obtain ⟨y89, ey89⟩ := Option.ne_none_iff_exists'.mp h89
                try rw [ey89]
                have by89 := ((jsmall_wf hW9).2.2.2.2.2.2 _ _ ey89)
                have hs : jstay S n0 = true := by
                  cases q1 : jstay S n0 with
                  | true => rfl
                  | false => rw [jsm_Bn (by simp [q1])] at ey89; cases ey89
                have hr := jrk_lt hW9 (c := n0) (by omega) hs
                refine ja_aload_n K 0 dX1_simplify_92 rfl ?_
                refine ja_iload_n K 2 dX1_simplify_93 rfl ?_
                refine ja_iload_n K 3 dX1_simplify_94 rfl ?_
                refine ja_callVI K (q0 := 0) (qc := (RX1, TX1, 16)) (st := []) [.int (nI (n0)), .int (nI (x))] (jd_matters l D q cI cZ (jS1 S) (v2) (jS1_wf hW9) hI77.2.1 (n0) (x) (show n0 < jN S by omega) (by omega)) (cwV 2 K.1.2.2.2.2 (gX1_X1_matters _) rfl rfl rfl (by decide +kernel) (by rw [hR9]; exact ⟨Nat.le_of_ble_eq_true rfl, Nat.le_of_ble_eq_true rfl⟩)) rfl rfl rfl rfl rfl (Nat.le_of_ble_eq_true rfl) dX1_simplify_95 (by rw [hR9]; exact ⟨Nat.le_of_ble_eq_true rfl, Nat.le_of_ble_eq_true rfl⟩) (fun r9 u9 h9 => ?_)
                rw [jsetB_mat] at h9
                obtain ⟨rfl, rfl⟩ := h9
                refine ja_if_eq K (tgt := 110) (jmatS S (x) (n0) = false) dX1_simplify_98 (by decide) (jbI_ne _) (fun h98 => ?_) (fun h98 => ?_)
                · refine ja_iconst K (-1) dX1_simplify_110 (by decide) ?_
                  refine ja_istore K (lv1 := [(0, .ref (q 0)), (1, .int (nI ((jrk S (jN S))))), (2, .int (nI (n0))), (3, .int (nI (x))), (4, .int (-1))]) dX1_simplify_111 (by decide) rfl rfl ?_
                  refine ja_aload_n K 0 dX1_simplify_113 rfl ?_
                  refine ja_get K hu9 0 rfl rfl 10 (by decide) (List.mem_cons_of_mem _ kfX1_32) rfl rfl dX1_simplify_114 ?_
                  refine ja_bipush K (nI 60) dX1_simplify_117 (by decide) ?_
                  refine ja_aload_n K 0 dX1_simplify_119 rfl ?_
                  refine ja_get K hu9 0 rfl rfl 9 (by decide) (List.mem_cons_of_mem _ kfX1_29) rfl rfl dX1_simplify_120 ?_
                  refine ja_iload_n K 2 dX1_simplify_123 rfl ?_
                  refine ja_iald K (v := nI ((jrk S n0))) 7 0 rfl rfl (n0) rfl (by omega) (by decide) (by have h9 := rB n0 (by omega); rw [show jB (jS1 S) n0 = jB (jsmall S) n0 from rfl, jsm_B (by omega) hs] at h9; exact h9) dX1_simplify_124 ?_
                  refine ja_imul K (nI ((60 * (jrk S n0)))) dX1_simplify_125 (pk_mul _ _) ?_
                  refine ja_iload_n K 3 dX1_simplify_126 rfl ?_
                  refine ja_iadd K (nI (((60 * (jrk S n0)) + x))) dX1_simplify_127 (nI_add _ _) ?_
                  refine ja_iload K 4 dX1_simplify_128 rfl ?_
                  refine ja_if_ge K (tgt := 137) (0 ≤ (-1 : Int32)) dX1_simplify_130 (by decide) Iff.rfl (fun h130 => ?_) (fun h130 => ?_)
                  · exact absurd h130 (by decide)
                  · refine ja_iconst K (nI 0) dX1_simplify_133 (by decide) ?_
                    refine ja_goto K (tgt := 146) dX1_simplify_134 (by decide) ?_
                    refine ja_iast K (ws1 := jmc q cI cZ (jmsV v2 (upd (jmV v2) (60 * jrk S n0 + x) (nI 0)))) 8 0 rfl rfl (((60 * (jrk S n0)) + x)) rfl (by omega) (by decide) dX1_simplify_146 rfl ?_
                    refine ja_iinc K (lv1 := [(0, .ref (q 0)), (1, .int (nI ((jrk S (jN S))))), (2, .int (nI (n0))), (3, .int (nI ((x + 1)))), (4, .int (-1))]) 3 (nI ((x + 1))) dX1_simplify_147 rfl (ja_inc _) (by decide) rfl rfl ?_
                    refine ja_goto K (tgt := 77) dX1_simplify_150 (by decide) ?_
                    refine ja_locals (lv1 := [(0, .ref (q 0)), (1, .int (nI ((jrk S (jN S))))), (2, .int (nI (n0))), (3, .int (nI ((x + 1))))]) [0, 1, 2, 3] rfl ?_
                    exact IH77 (x + 1) (jmsV v2 (upd (jmV v2) (60 * jrk S n0 + x) (nI 0))) ⟨by omega, jmQ_V hI77.2 (by omega) (jupN_0 h98)⟩ (by omega)
                · replace h98 : jmatS S x n0 = true := by simpa using h98
                  refine ja_aload_n K 0 dX1_simplify_101 rfl ?_
                  refine ja_iload_n K 2 dX1_simplify_102 rfl ?_
                  refine ja_iload_n K 3 dX1_simplify_103 rfl ?_
                  refine ja_callVI K (q0 := 0) (qc := (RX1, TX1, 16)) (st := []) [.int (nI (n0)), .int (nI (x))] (jd_nearest l D q cI cZ (jS1 S) (v2) (jS1_wf hW9) hI77.2.1 (n0) (x) (show n0 < jN S by omega) (by omega)) (cwV 2 K.1.2.2.2.2 (gX1_X1_nearest _) rfl rfl rfl (by decide +kernel) (by rw [hR9]; exact ⟨Nat.le_of_ble_eq_true rfl, Nat.le_of_ble_eq_true rfl⟩)) rfl rfl rfl rfl rfl (Nat.le_of_ble_eq_true rfl) dX1_simplify_104 (by rw [hR9]; exact ⟨Nat.le_of_ble_eq_true rfl, Nat.le_of_ble_eq_true rfl⟩) (fun r9 u9 h9 => ?_)
                  rw [jsetB_near] at h9
                  obtain ⟨rfl, rfl⟩ := h9
                  refine ja_goto K (tgt := 111) dX1_simplify_107 (by decide) ?_
                  refine ja_istore K (lv1 := [(0, .ref (q 0)), (1, .int (nI ((jrk S (jN S))))), (2, .int (nI (n0))), (3, .int (nI (x))), (4, .int (jeI (jnear S (x) (n0))))]) dX1_simplify_111 (by decide) rfl rfl ?_
                  refine ja_aload_n K 0 dX1_simplify_113 rfl ?_
                  refine ja_get K hu9 0 rfl rfl 10 (by decide) (List.mem_cons_of_mem _ kfX1_32) rfl rfl dX1_simplify_114 ?_
                  refine ja_bipush K (nI 60) dX1_simplify_117 (by decide) ?_
                  refine ja_aload_n K 0 dX1_simplify_119 rfl ?_
                  refine ja_get K hu9 0 rfl rfl 9 (by decide) (List.mem_cons_of_mem _ kfX1_29) rfl rfl dX1_simplify_120 ?_
                  refine ja_iload_n K 2 dX1_simplify_123 rfl ?_
                  refine ja_iald K (v := nI ((jrk S n0))) 7 0 rfl rfl (n0) rfl (by omega) (by decide) (by have h9 := rB n0 (by omega); rw [show jB (jS1 S) n0 = jB (jsmall S) n0 from rfl, jsm_B (by omega) hs] at h9; exact h9) dX1_simplify_124 ?_
                  refine ja_imul K (nI ((60 * (jrk S n0)))) dX1_simplify_125 (pk_mul _ _) ?_
                  refine ja_iload_n K 3 dX1_simplify_126 rfl ?_
                  refine ja_iadd K (nI (((60 * (jrk S n0)) + x))) dX1_simplify_127 (nI_add _ _) ?_
                  refine ja_iload K 4 dX1_simplify_128 rfl ?_
                  refine ja_if_ge K (tgt := 137) (¬ jnear S (x) (n0) = none) dX1_simplify_130 (by decide) (jeI_ge0 (fun p9 h9 => by have := (jnear_of hW9 h9); omega)) (fun h130 => ?_) (fun h130 => ?_)
                  · obtain ⟨y130, ey130⟩ := Option.ne_none_iff_exists'.mp h130
                    try rw [ey130]
                    have by130 := (jnear_of hW9 ey130)
                    have hs2 := jstay_of (show x < 60 by omega) by130.2.1
                    have hr2 := jrk_lt hW9 by130.1 hs2
                    have by131 := by130.1
                    refine ja_aload_n K 0 dX1_simplify_137 rfl ?_
                    refine ja_get K hu9 0 rfl rfl 9 (by decide) (List.mem_cons_of_mem _ kfX1_29) rfl rfl dX1_simplify_138 ?_
                    refine ja_iload K 4 dX1_simplify_141 rfl ?_
                    refine ja_iald K (v := nI ((jrk S y130))) 7 0 rfl rfl (y130) rfl (by omega) (by decide) (by have h9 := rB y130 (by omega); rw [show jB (jS1 S) y130 = jB (jsmall S) y130 from rfl, jsm_B (by omega) hs2] at h9; exact h9) dX1_simplify_143 ?_
                    refine ja_iconst K (nI 1) dX1_simplify_144 (by decide) ?_
                    refine ja_iadd K (nI (((jrk S y130) + 1))) dX1_simplify_145 (nI_add _ _) ?_
                    refine ja_iast K (ws1 := jmc q cI cZ (jmsV v2 (upd (jmV v2) (60 * jrk S n0 + x) (nI (((jrk S y130) + 1)))))) 8 0 rfl rfl (((60 * (jrk S n0)) + x)) rfl (by omega) (by decide) dX1_simplify_146 rfl ?_
                    refine ja_iinc K (lv1 := [(0, .ref (q 0)), (1, .int (nI ((jrk S (jN S))))), (2, .int (nI (n0))), (3, .int (nI ((x + 1)))), (4, .int (nI (y130)))]) 3 (nI ((x + 1))) dX1_simplify_147 rfl (ja_inc _) (by decide) rfl rfl ?_
                    refine ja_goto K (tgt := 77) dX1_simplify_150 (by decide) ?_
                    refine ja_locals (lv1 := [(0, .ref (q 0)), (1, .int (nI ((jrk S (jN S))))), (2, .int (nI (n0))), (3, .int (nI ((x + 1))))]) [0, 1, 2, 3] rfl ?_
                    exact IH77 (x + 1) (jmsV v2 (upd (jmV v2) (60 * jrk S n0 + x) (nI (((jrk S y130) + 1))))) ⟨by omega, jmQ_V hI77.2 (by omega) (jupN_2 h98 ey130)⟩ (by omega)
                  · replace h130 := Classical.not_not.mp h130
                    try rw [h130]
                    refine ja_iconst K (nI 0) dX1_simplify_133 (by decide) ?_
                    refine ja_goto K (tgt := 146) dX1_simplify_134 (by decide) ?_
                    refine ja_iast K (ws1 := jmc q cI cZ (jmsV v2 (upd (jmV v2) (60 * jrk S n0 + x) (nI 0)))) 8 0 rfl rfl (((60 * (jrk S n0)) + x)) rfl (by omega) (by decide) dX1_simplify_146 rfl ?_
                    refine ja_iinc K (lv1 := [(0, .ref (q 0)), (1, .int (nI ((jrk S (jN S))))), (2, .int (nI (n0))), (3, .int (nI ((x + 1)))), (4, .int (-1))]) 3 (nI ((x + 1))) dX1_simplify_147 rfl (ja_inc _) (by decide) rfl rfl ?_
                    refine ja_goto K (tgt := 77) dX1_simplify_150 (by decide) ?_
                    refine ja_locals (lv1 := [(0, .ref (q 0)), (1, .int (nI ((jrk S (jN S))))), (2, .int (nI (n0))), (3, .int (nI ((x + 1))))]) [0, 1, 2, 3] rfl ?_
                    exact IH77 (x + 1) (jmsV v2 (upd (jmV v2) (60 * jrk S n0 + x) (nI 0))) ⟨by omega, jmQ_V hI77.2 (by omega) (jupN_1 h130)⟩ (by omega)
          exact L77 0 v1 ⟨Nat.zero_le _, hI67.2⟩
      exact L67 0 v ⟨Nat.zero_le _, jmQ_0 hR1 hI9.2.2⟩
    · refine ja_aload_n K 0 dX1_simplify_15 rfl ?_
      refine ja_get K hu9 0 rfl rfl 9 (by decide) (List.mem_cons_of_mem _ kfX1_29) rfl rfl dX1_simplify_16 ?_
      refine ja_iload_n K 2 dX1_simplify_19 rfl ?_
      refine ja_iload_n K 2 dX1_simplify_20 rfl ?_
      refine ja_aload_n K 0 dX1_simplify_21 rfl ?_
      refine ja_get K hu9 0 rfl rfl 1 (by decide) (List.mem_cons_of_mem _ kfX1_42) rfl (congrArg (fun z9 => some (Value.int z9)) rN) dX1_simplify_22 ?_
      refine ja_icmp_ge K (tgt := 40) ((jN S) ≤ i) dX1_simplify_25 (by decide) (nI_leI (by omega) (by omega)) (fun h25 => ?_) (fun h25 => ?_)
      · refine ja_iconst K (-1) dX1_simplify_40 (by decide) ?_
        refine ja_iast K (ws1 := jmc q cI cZ (jmsB v (upd (jmB v) i (-1)))) 7 0 rfl rfl (i) rfl (by omega) (by decide) dX1_simplify_41 rfl ?_
        refine ja_aload_n K 0 dX1_simplify_42 rfl ?_
        refine ja_get K hu9 0 rfl rfl 9 (by decide) (List.mem_cons_of_mem _ kfX1_29) rfl rfl dX1_simplify_43 ?_
        refine ja_iload_n K 2 dX1_simplify_46 rfl ?_
        refine ja_iald K (v := -1) 7 0 rfl rfl (i) rfl (by omega) (by decide) pk_us dX1_simplify_47 ?_
        refine ja_if_lt K (tgt := 57) ((-1 : Int32) < 0) dX1_simplify_48 (by decide) Iff.rfl (fun h48 => ?_) (fun h48 => ?_)
        · refine ja_iload_n K 1 dX1_simplify_57 rfl ?_
          refine ja_istore_n K (lv1 := [(0, .ref (q 0)), (1, .int (nI ((jrA S i)))), (2, .int (nI (i)))]) dX1_simplify_58 (by decide) rfl rfl ?_
          refine ja_iinc K (lv1 := [(0, .ref (q 0)), (1, .int (nI ((jrA S i)))), (2, .int (nI ((i + 1))))]) 2 (nI ((i + 1))) dX1_simplify_59 rfl (ja_inc _) (by decide) rfl rfl ?_
          refine ja_goto K (tgt := 9) dX1_simplify_62 (by decide) ?_
          have k9 := IH9 (i + 1) (jmsB v (upd (jmB v) i (-1))) ⟨by omega, jR1_B1 hI9.2.1 (by rw [jsm_Bn (fun h9 => absurd h9.1 (by omega))]; rfl), hI9.2.2⟩ (by omega)
          rw [show jrA S (i + 1) = jrA S i from jrA_n (fun h9 => absurd h9.1 (by omega))] at k9
          exact k9
        · exact absurd (by decide) h48
      · refine ja_aload_n K 0 dX1_simplify_28 rfl ?_
        refine ja_iload_n K 2 dX1_simplify_29 rfl ?_
        refine ja_callVI K (q0 := 0) (qc := (RX1, TX1, 16)) (st := [.int (nI (i)), .ref (q 7)]) [.int (nI (i))] (jd_stays l D q cI cZ (jsetB S (jbA S i)) v (jsetB_wf hW9 (jbA_lt hW9 i)) hI9.2.1 i (show i < jN S by omega)) (cwV 1 K.1.2.2.2.2 (gX1_X1_stays _) rfl rfl rfl (by decide +kernel) (by rw [hR9]; exact ⟨Nat.le_of_ble_eq_true rfl, Nat.le_of_ble_eq_true rfl⟩)) rfl rfl rfl rfl rfl (Nat.le_of_ble_eq_true rfl) dX1_simplify_30 (by rw [hR9]; exact ⟨Nat.le_of_ble_eq_true rfl, Nat.le_of_ble_eq_true rfl⟩) (fun r9 u9 h9 => ?_)
        rw [jsetB_stay] at h9
        obtain ⟨rfl, rfl⟩ := h9
        refine ja_if_eq K (tgt := 40) (jstay S i = false) dX1_simplify_33 (by decide) (jbI_ne _) (fun h33 => ?_) (fun h33 => ?_)
        · refine ja_iconst K (-1) dX1_simplify_40 (by decide) ?_
          refine ja_iast K (ws1 := jmc q cI cZ (jmsB v (upd (jmB v) i (-1)))) 7 0 rfl rfl (i) rfl (by omega) (by decide) dX1_simplify_41 rfl ?_
          refine ja_aload_n K 0 dX1_simplify_42 rfl ?_
          refine ja_get K hu9 0 rfl rfl 9 (by decide) (List.mem_cons_of_mem _ kfX1_29) rfl rfl dX1_simplify_43 ?_
          refine ja_iload_n K 2 dX1_simplify_46 rfl ?_
          refine ja_iald K (v := -1) 7 0 rfl rfl (i) rfl (by omega) (by decide) pk_us dX1_simplify_47 ?_
          refine ja_if_lt K (tgt := 57) ((-1 : Int32) < 0) dX1_simplify_48 (by decide) Iff.rfl (fun h48 => ?_) (fun h48 => ?_)
          · refine ja_iload_n K 1 dX1_simplify_57 rfl ?_
            refine ja_istore_n K (lv1 := [(0, .ref (q 0)), (1, .int (nI ((jrA S i)))), (2, .int (nI (i)))]) dX1_simplify_58 (by decide) rfl rfl ?_
            refine ja_iinc K (lv1 := [(0, .ref (q 0)), (1, .int (nI ((jrA S i)))), (2, .int (nI ((i + 1))))]) 2 (nI ((i + 1))) dX1_simplify_59 rfl (ja_inc _) (by decide) rfl rfl ?_
            refine ja_goto K (tgt := 9) dX1_simplify_62 (by decide) ?_
            have k9 := IH9 (i + 1) (jmsB v (upd (jmB v) i (-1))) ⟨by omega, jR1_B1 hI9.2.1 (by rw [jsm_Bn (fun h9 => by rw [h9.2] at h33; cases h33)]; rfl), hI9.2.2⟩ (by omega)
            rw [show jrA S (i + 1) = jrA S i from jrA_n (fun h9 => by rw [h9.2] at h33; cases h33)] at k9
            exact k9
          · exact absurd (by decide) h48
        · replace h33 : jstay S i = true := by simpa using h33
          refine ja_iload_n K 1 dX1_simplify_36 rfl ?_
          refine ja_goto K (tgt := 41) dX1_simplify_37 (by decide) ?_
          refine ja_iast K (ws1 := jmc q cI cZ (jmsB v (upd (jmB v) i (nI ((jrA S i)))))) 7 0 rfl rfl (i) rfl (by omega) (by decide) dX1_simplify_41 rfl ?_
          refine ja_aload_n K 0 dX1_simplify_42 rfl ?_
          refine ja_get K hu9 0 rfl rfl 9 (by decide) (List.mem_cons_of_mem _ kfX1_29) rfl rfl dX1_simplify_43 ?_
          refine ja_iload_n K 2 dX1_simplify_46 rfl ?_
          refine ja_iald K (v := nI ((jrA S i))) 7 0 rfl rfl (i) rfl (by omega) (by decide) pk_us dX1_simplify_47 ?_
          refine ja_if_lt K (tgt := 57) ((jrA S i) < 0) dX1_simplify_48 (by decide) (jz_lt (by omega)) (fun h48 => ?_) (fun h48 => ?_)
          · exact absurd h48 (Nat.not_lt_zero _)
          · refine ja_iload_n K 1 dX1_simplify_51 rfl ?_
            refine ja_iconst K (nI 1) dX1_simplify_52 (by decide) ?_
            refine ja_iadd K (nI (((jrA S i) + 1))) dX1_simplify_53 (nI_add _ _) ?_
            refine ja_goto K (tgt := 58) dX1_simplify_54 (by decide) ?_
            refine ja_istore_n K (lv1 := [(0, .ref (q 0)), (1, .int (nI (((jrA S i) + 1)))), (2, .int (nI (i)))]) dX1_simplify_58 (by decide) rfl rfl ?_
            refine ja_iinc K (lv1 := [(0, .ref (q 0)), (1, .int (nI (((jrA S i) + 1)))), (2, .int (nI ((i + 1))))]) 2 (nI ((i + 1))) dX1_simplify_59 rfl (ja_inc _) (by decide) rfl rfl ?_
            refine ja_goto K (tgt := 9) dX1_simplify_62 (by decide) ?_
            have k9 := IH9 (i + 1) (jmsB v (upd (jmB v) i (nI ((jrA S i))))) ⟨by omega, jR1_B1 hI9.2.1 (by rw [jsm_B (by omega) h33, jrA_le (by omega)]; rfl), hI9.2.2⟩ (by omega)
            rw [show jrA S (i + 1) = (jrA S i) + 1 from jrA_s (by omega) h33] at k9
            exact k9
  exact L9 0 (jmsF u (nI 0)) ⟨Nat.zero_le _, jR1_B0 hS9 _, rfl⟩
