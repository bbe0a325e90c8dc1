set_option maxRecDepth 100000 in
set_option maxHeartbeats 4000000 in
theorem jd_isPlace (l : Launch) (D : va_G) (q : Nat → Nat) (cI cZ : ClassId) (u : JM) (z : Int32) : jkI l yX1_isPlace wsX1_isPlace ({ frames := 0, cells := 0, slots := 0, locals := 0 }) D vwCl (jxt cI cZ) (jmc q cI cZ) [.int z] (jmc q cI cZ u) (fun r u1 => jbI (jin z 60) = r ∧ u = u1) := by
  refine jkI_of (cc := cX1_isPlace) (maxL := 1) (ret := (some .boolean)) (by decide) rfl (Nat.le_of_ble_eq_true rfl) ?_
  intro p e R s m args below meth c Q A K hn9 hR9 hQ9
  show jaW p l e R s m args below meth c 0 0 Q D vwCl A 1 (jmc q cI cZ u) [(0, .int (z))] 0 []
  refine ja_iload_n K 0 dX1_isPlace_0 rfl ?_
  refine ja_if_lt K (tgt := 14) (z < 0) dX1_isPlace_1 (by decide) Iff.rfl (fun h1 => ?_) (fun h1 => ?_)
  · refine ja_iconst K (nI 0) dX1_isPlace_14 (by decide) ?_
    exact ja_zret K (u) rfl (by first | exact ja_nz1 | exact ja_nz0 | exact jbI_narrow _) (Nat.zero_le _) (Nat.zero_le _) dX1_isPlace_15 hQ9 rfl ⟨by first | exact jin_t ‹_› ‹_› | exact jin_f1 ‹_› | exact jin_f2 ‹_›, rfl⟩
  · refine ja_iload_n K 0 dX1_isPlace_4 rfl ?_
    refine ja_bipush K (nI 60) dX1_isPlace_5 (by decide) ?_
    refine ja_icmp_ge K (tgt := 14) (nI 60 ≤ z) dX1_isPlace_7 (by decide) Iff.rfl (fun h7 => ?_) (fun h7 => ?_)
    · refine ja_iconst K (nI 0) dX1_isPlace_14 (by decide) ?_
      exact ja_zret K (u) rfl (by first | exact ja_nz1 | exact ja_nz0 | exact jbI_narrow _) (Nat.zero_le _) (Nat.zero_le _) dX1_isPlace_15 hQ9 rfl ⟨by first | exact jin_t ‹_› ‹_› | exact jin_f1 ‹_› | exact jin_f2 ‹_›, rfl⟩
    · refine ja_iconst K (nI 1) dX1_isPlace_10 (by decide) ?_
      refine ja_goto K (tgt := 15) dX1_isPlace_11 (by decide) ?_
      exact ja_zret K (u) rfl (by first | exact ja_nz1 | exact ja_nz0 | exact jbI_narrow _) (Nat.zero_le _) (Nat.zero_le _) dX1_isPlace_15 hQ9 rfl ⟨by first | exact jin_t ‹_› ‹_› | exact jin_f1 ‹_› | exact jin_f2 ‹_›, rfl⟩
