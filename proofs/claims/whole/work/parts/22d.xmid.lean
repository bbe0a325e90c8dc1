set_option maxRecDepth 100000 in
set_option maxHeartbeats 4000000 in
theorem jc_countCarried (l : Launch) (D : va_G) (q : Nat → Nat) (cI cZ : ClassId) (S : JS) (u : JX) (hW9 : jWf S) (hS9 : jxR1 S u) (x : Nat) (hx : x < 60) : jkV l yX0_countCarried wsX0_countCarried ({ frames := 1, cells := 0, slots := 0, locals := 23 }) D vwCl (jxt cI cZ) (jxc q cI cZ) [.ref (q 0), .int (nI x)] (jxc q cI cZ u) (fun u1 => ∃ g, u1 = jxsC u g ∧ ∀ c, c < 14 → g c = nI (jundS S x c)) := by
  refine jkV_of (cc := cX0_countCarried) (maxL := 5) (ret := none) (by decide) rfl (Nat.le_of_ble_eq_true rfl) ?_
  intro p e R s m args below meth c Q A K hn9 hR9 hQ9
  obtain ⟨rN, rT, rM, rU, rK, rP, rA, rL, rB⟩ := id hS9
  obtain ⟨wn, wt, wu, wk, wp, wl, wb⟩ := id hW9
  have hu9 : ∀ w ∈ u_ws RX0 TX0 13, w ∈ wsX0_countCarried := fun w h => List.mem_cons_of_mem _ (ku_X0 w h)
  show jaW p l e R s m args below meth c 0 0 Q D vwCl A 5 (jxc q cI cZ u) [(0, .ref (q 0)), (1, .int (nI (x)))] 0 []
  refine ja_aload_n K 0 dX0_countCarried_0 rfl ?_
  refine ja_get K hu9 0 rfl rfl 9 (by decide) (List.mem_cons_of_mem _ kfX0_39) rfl rfl dX0_countCarried_1 ?_
  refine ja_iconst K (nI 0) dX0_countCarried_4 (by decide) ?_
  refine jx_fillC K (by rw [hR9]; exact ⟨Nat.le_of_ble_eq_true rfl, Nat.le_of_ble_eq_true rfl⟩) (Nat.le_of_ble_eq_true rfl) dX0_countCarried_5 (by rw [hR9]; exact ⟨Nat.le_of_ble_eq_true rfl, Nat.le_of_ble_eq_true rfl⟩) (fun g5 hg5 => ?_)
  refine ja_iconst K (nI 0) dX0_countCarried_8 (by decide) ?_
  refine ja_istore_n K (lv1 := [(0, .ref (q 0)), (1, .int (nI (x))), (2, .int (nI 0))]) dX0_countCarried_9 (by decide) rfl rfl ?_
  have L10 : ∀ (i : Nat) (g : Nat → Int32), (i ≤ jN S ∧ ∀ c, c < 14 → g c = nI (jct (fun c1 => jM S c1 && jhold (jU S x) c c1) i)) → jaW p l e R s m args below meth c 0 0 Q D vwCl A 5 (jxc q cI cZ (jxsC u g)) [(0, .ref (q 0)), (1, .int (nI (x))), (2, .int (nI (i)))] 10 [] := by
    refine jl_2 (fun (i : Nat) (g : Nat → Int32) => jN S - i) (fun (i : Nat) (g : Nat → Int32) => i ≤ jN S ∧ ∀ c, c < 14 → g c = nI (jct (fun c1 => jM S c1 && jhold (jU S x) c c1) i)) _ ?_
    intro i g hI10 IH10
    refine ja_iload_n K 2 dX0_countCarried_10 rfl ?_
    refine ja_aload_n K 0 dX0_countCarried_11 rfl ?_
    refine ja_get K hu9 0 rfl rfl 0 (by decide) (List.mem_cons_of_mem _ kfX0_7) rfl (congrArg (fun z9 => some (Value.int z9)) rN) dX0_countCarried_12 ?_
    refine ja_icmp_ge K (tgt := 77) ((jN S) ≤ i) dX0_countCarried_15 (by decide) (nI_leI (by omega) (by omega)) (fun h15 => ?_) (fun h15 => ?_)
    · exact ja_vret K (jxsC u g) rfl (Nat.zero_le _) (Nat.zero_le _) dX0_countCarried_77 hQ9 rfl ⟨g, rfl, fun c hc => by rw [hI10.2 c hc, show i = jN S by omega]; rfl⟩
    · refine ja_aload_n K 0 dX0_countCarried_18 rfl ?_
      refine ja_get K hu9 0 rfl rfl 2 (by decide) (List.mem_cons_of_mem _ kfX0_17) rfl rfl dX0_countCarried_19 ?_
      refine ja_iload_n K 2 dX0_countCarried_22 rfl ?_
      refine ja_zald K (v := jbI (jM S (i))) 2 1 rfl rfl (i) rfl (by omega) (by decide) (rM _ (by omega)) dX0_countCarried_23 ?_
      refine ja_if_eq K (tgt := 31) (jM S (i) = false) dX0_countCarried_24 (by decide) (jbI_ne _) (fun h24 => ?_) (fun h24 => ?_)
      · refine ja_iconst K (-1) dX0_countCarried_31 (by decide) ?_
        refine ja_istore_n K (lv1 := [(0, .ref (q 0)), (1, .int (nI (x))), (2, .int (nI (i))), (3, .int (-1))]) dX0_countCarried_32 (by decide) rfl rfl ?_
        refine ja_iconst K (nI 0) dX0_countCarried_33 (by decide) ?_
        refine ja_istore K (lv1 := [(0, .ref (q 0)), (1, .int (nI (x))), (2, .int (nI (i))), (3, .int (-1)), (4, .int (nI 0))]) dX0_countCarried_34 (by decide) rfl rfl ?_
        have L36 : ∀ (k : Nat) (d0 : Nat) (o : Option Nat) (g1 : Nat → Int32), (k + d0 = 14 ∧ (∀ y, o = some y → y < jN S) ∧ ∃ e1 : Nat → Nat, (∀ c, c < 14 → g1 c = nI (e1 c)) ∧ ∀ c, e1 c + (if (jpF (jU S x) (fun z => z == c) d0 o).isSome then 1 else 0) = jct (fun c1 => jM S c1 && jhold (jU S x) c c1) (i + 1)) → jaW p l e R s m args below meth c 0 0 Q D vwCl A 5 (jxc q cI cZ (jxsC u g1)) [(0, .ref (q 0)), (1, .int (nI (x))), (2, .int (nI (i))), (3, .int (jeI (o))), (4, .int (nI (k)))] 36 [] := by
          refine jl_4 (fun (k : Nat) (d0 : Nat) (o : Option Nat) (g1 : Nat → Int32) => d0) (fun (k : Nat) (d0 : Nat) (o : Option Nat) (g1 : Nat → Int32) => k + d0 = 14 ∧ (∀ y, o = some y → y < jN S) ∧ ∃ e1 : Nat → Nat, (∀ c, c < 14 → g1 c = nI (e1 c)) ∧ ∀ c, e1 c + (if (jpF (jU S x) (fun z => z == c) d0 o).isSome then 1 else 0) = jct (fun c1 => jM S c1 && jhold (jU S x) c c1) (i + 1)) _ ?_
          intro k d0 o g1 hI36 IH36
          refine ja_iload K 4 dX0_countCarried_36 rfl ?_
          refine ja_bipush K (nI 14) dX0_countCarried_38 (by decide) ?_
          refine ja_icmp_ge K (tgt := 71) (14 ≤ k) dX0_countCarried_40 (by decide) (nI_leI (by omega) (by omega)) (fun h40 => ?_) (fun h40 => ?_)
          · obtain rfl : d0 = 0 := by omega
            refine ja_iinc K (lv1 := [(0, .ref (q 0)), (1, .int (nI (x))), (2, .int (nI ((i + 1)))), (3, .int (jeI (o))), (4, .int (nI (k)))]) 2 (nI ((i + 1))) dX0_countCarried_71 rfl (ja_inc _) (by decide) rfl rfl ?_
            refine ja_goto K (tgt := 10) dX0_countCarried_74 (by decide) ?_
            refine ja_locals (lv1 := [(0, .ref (q 0)), (1, .int (nI (x))), (2, .int (nI ((i + 1))))]) [0, 1, 2] rfl ?_
            refine IH10 (i + 1) g1 ⟨by omega, fun c hc => ?_⟩ (by omega)
            obtain ⟨e1, q1, q2⟩ := hI36.2.2
            rw [q1 c hc, ← q2 c]
            simp [jpF]
          · obtain ⟨d, rfl⟩ : ∃ d1, d0 = d1 + 1 := ⟨d0 - 1, by omega⟩
            refine ja_iload_n K 3 dX0_countCarried_43 rfl ?_
            refine ja_iconst K (-1) dX0_countCarried_44 (by decide) ?_
            refine ja_icmp_eq K (tgt := 71) (o = none) dX0_countCarried_45 (by decide) (jeI_m1 (fun p9 h9 => by have := hI36.2.1 p9 h9; omega)) (fun h45 => ?_) (fun h45 => ?_)
            · subst h45
              refine ja_iinc K (lv1 := [(0, .ref (q 0)), (1, .int (nI (x))), (2, .int (nI ((i + 1)))), (3, .int (-1)), (4, .int (nI (k)))]) 2 (nI ((i + 1))) dX0_countCarried_71 rfl (ja_inc _) (by decide) rfl rfl ?_
              refine ja_goto K (tgt := 10) dX0_countCarried_74 (by decide) ?_
              refine ja_locals (lv1 := [(0, .ref (q 0)), (1, .int (nI (x))), (2, .int (nI ((i + 1))))]) [0, 1, 2] rfl ?_
              refine IH10 (i + 1) g1 ⟨by omega, fun c hc => ?_⟩ (by omega)
              obtain ⟨e1, q1, q2⟩ := hI36.2.2
              rw [q1 c hc, ← q2 c]
              simp [jpF]
            · obtain ⟨y45, rfl⟩ := Option.ne_none_iff_exists'.mp h45
              have by45 := hI36.2.1 y45 rfl
              obtain ⟨e1, q1, q2⟩ := hI36.2.2
              refine ja_aload_n K 0 dX0_countCarried_48 rfl ?_
              refine ja_get K hu9 0 rfl rfl 9 (by decide) (List.mem_cons_of_mem _ kfX0_39) rfl rfl dX0_countCarried_49 ?_
              refine ja_iload_n K 3 dX0_countCarried_52 rfl ?_
              refine ja_dup2 K dX0_countCarried_53 rfl rfl ?_
              refine ja_iald K (v := nI ((e1 y45))) 8 0 rfl rfl (y45) rfl (by omega) (by decide) (q1 _ (by omega)) dX0_countCarried_54 ?_
              refine ja_iconst K (nI 1) dX0_countCarried_55 (by decide) ?_
              refine ja_iadd K (nI (((e1 y45) + 1))) dX0_countCarried_56 (nI_add _ _) ?_
              refine ja_iast K (ws1 := jxc q cI cZ (jxsC u (upd g1 y45 (nI (((e1 y45) + 1)))))) 8 0 rfl rfl (y45) rfl (by omega) (by decide) dX0_countCarried_57 rfl ?_
              refine ja_aload_n K 0 dX0_countCarried_58 rfl ?_
              refine ja_iload_n K 1 dX0_countCarried_59 rfl ?_
              refine ja_iload_n K 3 dX0_countCarried_60 rfl ?_
              refine ja_callVI K (q0 := 0) (qc := (RX0, TX0, 13)) (st := []) [.int (nI (x)), .int (nI (y45))] (jc_parentAt l D q cI cZ (jxsC u (upd g1 y45 (nI (((e1 y45) + 1))))) (x) (y45) (by omega) (by omega) (jU S (x) (y45)) (rU _ _ (by omega) (by omega))) (cwV 2 K.1.2.2.2.2 (gX0_X0_parentAt _) rfl rfl rfl (by decide +kernel) (by rw [hR9]; exact ⟨Nat.le_of_ble_eq_true rfl, Nat.le_of_ble_eq_true rfl⟩)) rfl rfl rfl rfl rfl (Nat.le_of_ble_eq_true rfl) dX0_countCarried_61 (by rw [hR9]; exact ⟨Nat.le_of_ble_eq_true rfl, Nat.le_of_ble_eq_true rfl⟩) (fun r9 u9 h9 => ?_)
              obtain ⟨rfl, rfl⟩ := h9
              refine ja_istore_n K (lv1 := [(0, .ref (q 0)), (1, .int (nI (x))), (2, .int (nI (i))), (3, .int (jeI (jU S (x) (y45)))), (4, .int (nI (k)))]) dX0_countCarried_64 (by decide) rfl rfl ?_
              refine ja_iinc K (lv1 := [(0, .ref (q 0)), (1, .int (nI (x))), (2, .int (nI (i))), (3, .int (jeI (jU S (x) (y45)))), (4, .int (nI ((k + 1))))]) 4 (nI ((k + 1))) dX0_countCarried_65 rfl (ja_inc _) (by decide) rfl rfl ?_
              refine ja_goto K (tgt := 36) dX0_countCarried_68 (by decide) ?_
              refine IH36 (k + 1) d (jU S x y45) (upd g1 y45 (nI (e1 y45 + 1))) ⟨by omega, fun z hz => (wu _ _ z hz).2.1, fun c => if c = y45 then e1 y45 + 1 else e1 c, fun c hc => ?_, jcar_step (jup_S hW9 x) q2⟩ (by omega)
              by_cases q3 : c = y45
              · subst q3; show _ = nI (if c = c then _ else _); rw [if_pos rfl]; exact pk_us
              · show _ = nI (if c = y45 then _ else _); rw [if_neg q3, pk_un q3]; exact q1 c hc
        exact L36 0 14 none g ⟨rfl, fun y h => (by cases h), fun c => jct (fun c1 => jM S c1 && jhold (jU S x) c c1) i, hI10.2, fun c => by simp [jct, h24, jpF]⟩
      · refine ja_iload_n K 2 dX0_countCarried_27 rfl ?_
        refine ja_goto K (tgt := 32) dX0_countCarried_28 (by decide) ?_
        refine ja_istore_n K (lv1 := [(0, .ref (q 0)), (1, .int (nI (x))), (2, .int (nI (i))), (3, .int (nI (i)))]) dX0_countCarried_32 (by decide) rfl rfl ?_
        refine ja_iconst K (nI 0) dX0_countCarried_33 (by decide) ?_
        refine ja_istore K (lv1 := [(0, .ref (q 0)), (1, .int (nI (x))), (2, .int (nI (i))), (3, .int (nI (i))), (4, .int (nI 0))]) dX0_countCarried_34 (by decide) rfl rfl ?_
        have L36 : ∀ (k : Nat) (d0 : Nat) (o : Option Nat) (g1 : Nat → Int32), (k + d0 = 14 ∧ (∀ y, o = some y → y < jN S) ∧ ∃ e1 : Nat → Nat, (∀ c, c < 14 → g1 c = nI (e1 c)) ∧ ∀ c, e1 c + (if (jpF (jU S x) (fun z => z == c) d0 o).isSome then 1 else 0) = jct (fun c1 => jM S c1 && jhold (jU S x) c c1) (i + 1)) → jaW p l e R s m args below meth c 0 0 Q D vwCl A 5 (jxc q cI cZ (jxsC u g1)) [(0, .ref (q 0)), (1, .int (nI (x))), (2, .int (nI (i))), (3, .int (jeI (o))), (4, .int (nI (k)))] 36 [] := by
          refine jl_4 (fun (k : Nat) (d0 : Nat) (o : Option Nat) (g1 : Nat → Int32) => d0) (fun (k : Nat) (d0 : Nat) (o : Option Nat) (g1 : Nat → Int32) => k + d0 = 14 ∧ (∀ y, o = some y → y < jN S) ∧ ∃ e1 : Nat → Nat, (∀ c, c < 14 → g1 c = nI (e1 c)) ∧ ∀ c, e1 c + (if (jpF (jU S x) (fun z => z == c) d0 o).isSome then 1 else 0) = jct (fun c1 => jM S c1 && jhold (jU S x) c c1) (i + 1)) _ ?_
          intro k d0 o g1 hI36 IH36
          refine ja_iload K 4 dX0_countCarried_36 rfl ?_
          refine ja_bipush K (nI 14) dX0_countCarried_38 (by decide) ?_
          refine ja_icmp_ge K (tgt := 71) (14 ≤ k) dX0_countCarried_40 (by decide) (nI_leI (by omega) (by omega)) (fun h40 => ?_) (fun h40 => ?_)
          · obtain rfl : d0 = 0 := by omega
            refine ja_iinc K (lv1 := [(0, .ref (q 0)), (1, .int (nI (x))), (2, .int (nI ((i + 1)))), (3, .int (jeI (o))), (4, .int (nI (k)))]) 2 (nI ((i + 1))) dX0_countCarried_71 rfl (ja_inc _) (by decide) rfl rfl ?_
            refine ja_goto K (tgt := 10) dX0_countCarried_74 (by decide) ?_
            refine ja_locals (lv1 := [(0, .ref (q 0)), (1, .int (nI (x))), (2, .int (nI ((i + 1))))]) [0, 1, 2] rfl ?_
            refine IH10 (i + 1) g1 ⟨by omega, fun c hc => ?_⟩ (by omega)
            obtain ⟨e1, q1, q2⟩ := hI36.2.2
            rw [q1 c hc, ← q2 c]
            simp [jpF]
          · obtain ⟨d, rfl⟩ : ∃ d1, d0 = d1 + 1 := ⟨d0 - 1, by omega⟩
            refine ja_iload_n K 3 dX0_countCarried_43 rfl ?_
            refine ja_iconst K (-1) dX0_countCarried_44 (by decide) ?_
            refine ja_icmp_eq K (tgt := 71) (o = none) dX0_countCarried_45 (by decide) (jeI_m1 (fun p9 h9 => by have := hI36.2.1 p9 h9; omega)) (fun h45 => ?_) (fun h45 => ?_)
            · subst h45
              refine ja_iinc K (lv1 := [(0, .ref (q 0)), (1, .int (nI (x))), (2, .int (nI ((i + 1)))), (3, .int (-1)), (4, .int (nI (k)))]) 2 (nI ((i + 1))) dX0_countCarried_71 rfl (ja_inc _) (by decide) rfl rfl ?_
              refine ja_goto K (tgt := 10) dX0_countCarried_74 (by decide) ?_
              refine ja_locals (lv1 := [(0, .ref (q 0)), (1, .int (nI (x))), (2, .int (nI ((i + 1))))]) [0, 1, 2] rfl ?_
              refine IH10 (i + 1) g1 ⟨by omega, fun c hc => ?_⟩ (by omega)
              obtain ⟨e1, q1, q2⟩ := hI36.2.2
              rw [q1 c hc, ← q2 c]
              simp [jpF]
            · obtain ⟨y45, rfl⟩ := Option.ne_none_iff_exists'.mp h45
              have by45 := hI36.2.1 y45 rfl
              obtain ⟨e1, q1, q2⟩ := hI36.2.2
              refine ja_aload_n K 0 dX0_countCarried_48 rfl ?_
              refine ja_get K hu9 0 rfl rfl 9 (by decide) (List.mem_cons_of_mem _ kfX0_39) rfl rfl dX0_countCarried_49 ?_
              refine ja_iload_n K 3 dX0_countCarried_52 rfl ?_
              refine ja_dup2 K dX0_countCarried_53 rfl rfl ?_
              refine ja_iald K (v := nI ((e1 y45))) 8 0 rfl rfl (y45) rfl (by omega) (by decide) (q1 _ (by omega)) dX0_countCarried_54 ?_
              refine ja_iconst K (nI 1) dX0_countCarried_55 (by decide) ?_
              refine ja_iadd K (nI (((e1 y45) + 1))) dX0_countCarried_56 (nI_add _ _) ?_
              refine ja_iast K (ws1 := jxc q cI cZ (jxsC u (upd g1 y45 (nI (((e1 y45) + 1)))))) 8 0 rfl rfl (y45) rfl (by omega) (by decide) dX0_countCarried_57 rfl ?_
              refine ja_aload_n K 0 dX0_countCarried_58 rfl ?_
              refine ja_iload_n K 1 dX0_countCarried_59 rfl ?_
              refine ja_iload_n K 3 dX0_countCarried_60 rfl ?_
              refine ja_callVI K (q0 := 0) (qc := (RX0, TX0, 13)) (st := []) [.int (nI (x)), .int (nI (y45))] (jc_parentAt l D q cI cZ (jxsC u (upd g1 y45 (nI (((e1 y45) + 1))))) (x) (y45) (by omega) (by omega) (jU S (x) (y45)) (rU _ _ (by omega) (by omega))) (cwV 2 K.1.2.2.2.2 (gX0_X0_parentAt _) rfl rfl rfl (by decide +kernel) (by rw [hR9]; exact ⟨Nat.le_of_ble_eq_true rfl, Nat.le_of_ble_eq_true rfl⟩)) rfl rfl rfl rfl rfl (Nat.le_of_ble_eq_true rfl) dX0_countCarried_61 (by rw [hR9]; exact ⟨Nat.le_of_ble_eq_true rfl, Nat.le_of_ble_eq_true rfl⟩) (fun r9 u9 h9 => ?_)
              obtain ⟨rfl, rfl⟩ := h9
              refine ja_istore_n K (lv1 := [(0, .ref (q 0)), (1, .int (nI (x))), (2, .int (nI (i))), (3, .int (jeI (jU S (x) (y45)))), (4, .int (nI (k)))]) dX0_countCarried_64 (by decide) rfl rfl ?_
              refine ja_iinc K (lv1 := [(0, .ref (q 0)), (1, .int (nI (x))), (2, .int (nI (i))), (3, .int (jeI (jU S (x) (y45)))), (4, .int (nI ((k + 1))))]) 4 (nI ((k + 1))) dX0_countCarried_65 rfl (ja_inc _) (by decide) rfl rfl ?_
              refine ja_goto K (tgt := 36) dX0_countCarried_68 (by decide) ?_
              refine IH36 (k + 1) d (jU S x y45) (upd g1 y45 (nI (e1 y45 + 1))) ⟨by omega, fun z hz => (wu _ _ z hz).2.1, fun c => if c = y45 then e1 y45 + 1 else e1 c, fun c hc => ?_, jcar_step (jup_S hW9 x) q2⟩ (by omega)
              by_cases q3 : c = y45
              · subst q3; show _ = nI (if c = c then _ else _); rw [if_pos rfl]; exact pk_us
              · show _ = nI (if c = y45 then _ else _); rw [if_neg q3, pk_un q3]; exact q1 c hc
        exact L36 0 14 (some i) g ⟨rfl, fun y h => (by cases h; omega), fun c => jct (fun c1 => jM S c1 && jhold (jU S x) c c1) i, hI10.2, fun c => by simp only [jct, h24]; simp [jhold]⟩
  exact L10 0 g5 ⟨Nat.zero_le _, fun c hc => hg5 c hc⟩
