/-! What holds at the law's start. -/
theorem jA_cls {args : Array Value} {s : State} {ty : FieldType} (h : (Cond.arrayClass ty).before args s = true) : ∃ cA : ClassId, ArrOfT s cA ty ∧ s.vm.findClass ("[" ++ ty.toString) = some cA := by
  obtain ⟨cA, kA, comp, h1, h2, h3⟩ := Cond.arrayClass_spec h
  exact ⟨cA, fun n z => ⟨fun k h => (by cases h), kA, h2, comp, h3⟩, h1⟩
theorem jW0_use {args : Array Value} {s : State} (hts : ∀ w ∈ lw_tbl, w.before args s = true) {w : Cond} (h : w ∈ jW0) : w.before args s = true := hts w (List.mem_filter.mp h).1
theorem jK_start {args : Array Value} {s : State} (hts : ∀ w ∈ lw_tbl, w.before args s = true) : ∃ (D : va_G) (cI cZ cL : ClassId), va_K D vwCl (jLt cI cZ cL) s := by
  obtain ⟨c0, i0, k0⟩ := u_known (ws := jW0) (fun w h => jW0_use hts h) ku_X0 (jW0_use hts kmk_X0)
  obtain ⟨c1, i1, k1⟩ := u_known (ws := jW0) (fun w h => jW0_use hts h) ku_X1 (jW0_use hts kmk_X1)
  obtain ⟨cI, a1, a2⟩ := jA_cls (jW0_use hts karr_I)
  obtain ⟨cZ, b1, b2⟩ := jA_cls (jW0_use hts karr_Z)
  obtain ⟨cL, d1, d2⟩ := jA_cls (jW0_use hts karr_J)
  refine ⟨(fun c => if c = 0 then c0 else c1, fun c => if c = 0 then i0 else i1), cI, cZ, cL, fun c q hq => ?_, fun k q hk => ?_⟩
  · match c, hq with
    | 0, hq => cases hq; exact k0
    | 1, hq => cases hq; exact k1
    | c + 2, hq => simp [vwCl] at hq
  · match k, hk with
    | 0, hk => cases hk; exact ⟨a1, a2⟩
    | 1, hk => cases hk; exact ⟨b1, b2⟩
    | 2, hk => cases hk; exact ⟨d1, d2⟩
    | k + 3, hk => simp [jLt] at hk
theorem jtx_in : ∀ t ∈ jtx, Cond.stringRef t.1 t.2.1 t.2.2 ∈ lw_tbl := by decide +kernel
theorem jtx_own : ∀ t ∈ jtx, t.1 = RX0 := by decide +kernel
theorem jlay1 : Cond.laysStatic Bundle.tN "UNASSIGNED_STACK" Bundle.steD ∈ lw_tbl := by decide +kernel
theorem jlay2 : Cond.laysStatic Bundle.tN "SUPPRESSED_SENTINEL" Bundle.listD ∈ lw_tbl := by decide +kernel
theorem jiniT : Cond.initialized Bundle.tN ∈ lw_tbl := by decide +kernel
theorem jZL_start {b : Nat} {s : State} (hts : ∀ w ∈ lw_tbl, w.before #[Value.ref b] s = true) (hgv : (Jvm.Cond.and given_1 narrow_1).before #[Value.ref b] s = true) : jZL (fun q => s.heap.size ≤ q) s := by
  have hs := flat_of_before _ hgv
  obtain ⟨c0, kC, hfc, -⟩ := Cond.instantiable_spec (jW0_use hts kmk_X0)
  have hA : ∀ a : Nat, a < s.heap.size → ¬ s.heap.size ≤ a := fun a h => by omega
  refine ⟨⟨vx_Zqof (hts _ jlay1) (hts _ jiniT) (hs _ (by decide +kernel)) hA, vx_Zqof (hts _ jlay2) (hts _ jiniT) (hs _ (by decide +kernel)) hA, fun w h => ?_, fun t h => ?_⟩, va_Nc.of (hs _ (by decide +kernel)), va_Nc.of (hs _ (by decide +kernel)), va_Nc.of (hs _ (by decide +kernel))⟩
  · have h1 := List.mem_filter.mp h
    exact ⟨h1.2, va_Nw.of (jzw_on h1.2) (hts w h1.1)⟩
  · have h1 := hts _ (jtx_in t h)
    have h2 := jtx_own t h
    obtain ⟨k, cf, i, a, -, -, -, -, -, hev⟩ := Cond.stringRef_spec (cur := c0) (by rw [h2]; exact hfc) h1
    exact ⟨a, vk_R.of h1 hev⟩
