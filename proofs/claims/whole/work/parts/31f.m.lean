set_option maxRecDepth 100000 in
set_option maxHeartbeats 4000000 in
theorem jd_isRun (l : Launch) (D : va_G) (q : Nat → Nat) (cI cZ : ClassId) (u : JM) (a b : Int32) : jkI l yX1_isRun wsX1_isRun ({ frames := 0, cells := 0, slots := 0, locals := 0 }) D vwCl (jxt cI cZ) (jmc q cI cZ) [.int a, .int b] (jmc q cI cZ u) (fun r u1 => jbI (jrun a b) = r ∧ u = u1) := by
  refine jkI_of (cc := cX1_isRun) (maxL := 2) (ret := (some .boolean)) (by decide) rfl (Nat.le_of_ble_eq_true rfl) ?_
  intro p e R s m args below meth c Q A K hn9 hR9 hQ9
  show jaW p l e R s m args below meth c 0 0 Q D vwCl A 2 (jmc q cI cZ u) [(0, .int (a)), (1, .int (b))] 0 []
  refine ja_iload_n K 0 dX1_isRun_0 rfl ?_
  refine ja_if_lt K (tgt := 19) (a < 0) dX1_isRun_1 (by decide) Iff.rfl (fun h1 => ?_) (fun h1 => ?_)
  · refine ja_iconst K (nI 0) dX1_isRun_19 (by decide) ?_
    exact ja_zret K (u) rfl (by first | exact ja_nz1 | exact ja_nz0 | exact jbI_narrow _) (Nat.zero_le _) (Nat.zero_le _) dX1_isRun_20 hQ9 rfl ⟨by first | exact jrun_t ‹_› ‹_› ‹_› | exact jrun_f1 ‹_› | exact jrun_f2 ‹_› | exact jrun_f3 ‹_›, rfl⟩
  · refine ja_iload_n K 0 dX1_isRun_4 rfl ?_
    refine ja_iload_n K 1 dX1_isRun_5 rfl ?_
    refine ja_icmp_ge K (tgt := 19) (b ≤ a) dX1_isRun_6 (by decide) Iff.rfl (fun h6 => ?_) (fun h6 => ?_)
    · refine ja_iconst K (nI 0) dX1_isRun_19 (by decide) ?_
      exact ja_zret K (u) rfl (by first | exact ja_nz1 | exact ja_nz0 | exact jbI_narrow _) (Nat.zero_le _) (Nat.zero_le _) dX1_isRun_20 hQ9 rfl ⟨by first | exact jrun_t ‹_› ‹_› ‹_› | exact jrun_f1 ‹_› | exact jrun_f2 ‹_› | exact jrun_f3 ‹_›, rfl⟩
    · refine ja_iload_n K 1 dX1_isRun_9 rfl ?_
      refine ja_bipush K (nI 60) dX1_isRun_10 (by decide) ?_
      refine ja_icmp_gt K (tgt := 19) (nI 60 < b) dX1_isRun_12 (by decide) Iff.rfl (fun h12 => ?_) (fun h12 => ?_)
      · refine ja_iconst K (nI 0) dX1_isRun_19 (by decide) ?_
        exact ja_zret K (u) rfl (by first | exact ja_nz1 | exact ja_nz0 | exact jbI_narrow _) (Nat.zero_le _) (Nat.zero_le _) dX1_isRun_20 hQ9 rfl ⟨by first | exact jrun_t ‹_› ‹_› ‹_› | exact jrun_f1 ‹_› | exact jrun_f2 ‹_› | exact jrun_f3 ‹_›, rfl⟩
      · refine ja_iconst K (nI 1) dX1_isRun_15 (by decide) ?_
        refine ja_goto K (tgt := 20) dX1_isRun_16 (by decide) ?_
        exact ja_zret K (u) rfl (by first | exact ja_nz1 | exact ja_nz0 | exact jbI_narrow _) (Nat.zero_le _) (Nat.zero_le _) dX1_isRun_20 hQ9 rfl ⟨by first | exact jrun_t ‹_› ‹_› ‹_› | exact jrun_f1 ‹_› | exact jrun_f2 ‹_› | exact jrun_f3 ‹_›, rfl⟩
