/-! The law's small methods: a table of their own, calls that may throw. -/
section JA4
variable {p : Program} {l : Launch} {e : Env} {R : Room} {s : State} {m : MethodId} {args : Array Value} {below : List Frame} {meth : Method} {c : Code} {cells slots : Nat} {Q : State → Prop}
variable {D : va_G} {cl : List vw_C} {tys : List (ClassId × FieldType)} {A : Nat → Prop} {nL : Nat} {cc : ByteArray} {Ts : List Cond} {own : String} {ret : Option FieldType} {ws : va_W} {lv : List (Nat × Value)} {pc : Nat} {st : List Value}
/-- what the law's small methods need of the start -/
def jZL (A : Nat → Prop) (U : State) : Prop := jZ A jzs jtx U ∧ va_Nc jES jEA U ∧ va_Nc jEA jEO U ∧ va_Nc jES jEO U
theorem jZL_go {A B : Nat → Prop} {s U : State} {H : Heap} {L : List Loc} (h : jZL A s) (hW : s.WarmedH U.vm) (hU : U.heap = H) (hS : va_S A s.heap H L) (hAB : ∀ q, B q → A q) : jZL B U := ⟨jZ_go h.1 hW hU hS hAB (fun _ h => h) (fun _ h => h), va_Nc.moved hW.alike h.2.1, va_Nc.moved hW.alike h.2.2.1, va_Nc.moved hW.alike h.2.2.2⟩
def jkL {S : Type} (l : Launch) (y : MethodName) (wm : List Cond) (rm : Room) (D : va_G) (cl : List vw_C) (tys : List (ClassId × FieldType)) (cf : S → va_W) (av : List Value) (w0 : va_W) (post : Int32 → S → Prop) : Prop :=
  ∀ sz : Nat, Met l y wm rm (va_Pc av (fun U => jkP D cl tys w0 sz U ∧ jZL (va_A w0 sz) U)) (va_Qi post (jkA D cl tys (va_A w0 sz) cf) (va_A w0 sz)) rm.cells rm.slots (va_A w0 sz)
theorem jkL_blind (D : va_G) (cl : List vw_C) (tys : List (ClassId × FieldType)) (A : Nat → Prop) (av : List Value) (ws : va_W) (sz : Nat) : FrameBlind (va_Pc av (fun U => jkP D cl tys ws sz U ∧ jZL A U)) := fun a U g mk q => by
  obtain ⟨q0, q1, q2, q3, q4, q5⟩ := q
  obtain ⟨r0, r1, r2⟩ := jkX_blind D cl tys A jzs jtx av ws sz a U g mk ⟨q0, q1, q2⟩
  exact ⟨r0, r1, r2, va_Nc.moved (u := U) (U := U.calling g mk a) (Vm.Alike.refl U.vm) q3, va_Nc.moved (u := U) (U := U.calling g mk a) (Vm.Alike.refl U.vm) q4, va_Nc.moved (u := U) (U := U.calling g mk a) (Vm.Alike.refl U.vm) q5⟩
theorem jkL_of {S : Type} {l : Launch} {y : MethodName} {wm wm' : List Cond} {rm : Room} {D : va_G} {cl : List vw_C} {tys : List (ClassId × FieldType)} {cf : S → va_W} {av : List Value} {w0 : va_W} {post : Int32 → S → Prop} {cc : ByteArray} {maxL : Nat} {ret : Option FieldType} {hh : List (Nat × Nat × Nat × Nat)} (hy : plainName y.cls = true) (hw : wm = Cond.codeWith y cc maxL ret hh :: wm') (hav : (lg_sl av).length ≤ maxL)
    (body : ∀ (p : Program) (e : Env) (R : Room) (s : State) (m : MethodId) (args : Array Value) (below : List Frame) (meth : Method) (c : Code) (Q : State → Prop) (A : Nat → Prop), jaC p s m args meth c D cl tys cc maxL wm y.cls ret A → R = rm → c.exceptionTable.toList = tableOf hh → jZL A s → Q = MQ below (va_Qi post (jkA D cl tys A cf) A) args s rm.cells rm.slots A →
      jaW p l e R s m args below meth c 0 0 Q D cl A maxL w0 (lv_args 0 av) 0 []) : jkL l y wm rm D cl tys cf av w0 post := by
  intro sz
  refine va_MetW (cc := cc) (maxL := maxL) (ret := ret) hy hw ?_
  intro p e s m args below meth c s₁ B hml hv
  obtain ⟨rfl, ⟨hsz, hP, hK, hD0⟩, hZ⟩ := hv
  subst hsz
  have hts := atoms_spec (ws := wm) B.pre
  have hTb := vx_table (x := y) B (hts _ (by rw [hw]; exact List.mem_cons_self))
  rw [lg_entry_eq]
  exact body p e (headSpec wm rm).room s m av.toArray below meth c _ (va_A w0 s.heap.size) ⟨⟨B.exec, B.bytes, hml, findClass_of_methodNamed B.named, hts⟩, hK, fun q h => Or.inr h, B.returns, B.notSynchronized⟩ rfl hTb hZ rfl s.heap [] _ hP (hD0.self) va_S.rf (lv_entry av hav)

theorem ja_fcallVX (K : jaC p s m args meth c D cl tys cc nL Ts own ret A) {S : Type} {y : MethodName} {wm : List Cond} {rm : Room} {tyc : List (ClassId × FieldType)} {zs : List Cond} {tx : List (String × Nat × String)} {cf : S → va_W} {av : List Value} {w0 wr : va_W} {post : Int32 → S → Prop} {px : String → S → Prop} {index n maxL : Nat} {bytes : ByteArray} {rt : Option FieldType} {st0 : List Value} (isC isR isT : List Nat) (hC1 : isC.filterMap (fun i => ws[i]?) = w0) (hC2 : isC.map (fun i => ws[i]?) = w0.map some) (hnC : va_nd isC = true) (hR2 : isR.map (fun i => ws[i]?) = wr.map some) (hnR : va_nd isR = true) (hdis : ∀ i ∈ isR, i ∉ isC) (hT : isT.filterMap (fun i => tys[i]?) = tyc) {b q0 ci : Nat} {fs : List Value} {qc : vw_C} (As : List Value) (hM : jkX l y wm rm D cl tyc zs tx cf av w0 post px) (cw : CallW R s args own qc.1 index y bytes maxL rt wm rm rm.cells rm.slots n) (he : w0[q0]? = some (b, .inr (ci, fs))) (hc : cl[ci]? = some qc) (hav : (Value.ref b :: As).toArray = av.toArray) (hn : As.length = n) (hs0 : st0 = As.reverse ++ Value.ref b :: st) (hst : (st.map fun v => v.category).sum ≤ 8) (hd : decode cc pc = .ok (.invokevirtual index, 3)) (hf : cells + rm.cells ≤ R.cells ∧ slots + rm.slots ≤ R.slots) (hZ : jZ A zs tx s) {hh : List (Nat × Nat × Nat × Nat)} (hTb : c.exceptionTable.toList = tableOf hh)
    (kx : ∀ (E : String) (u : S), px E u → ∃ (pre suf : List (Nat × Nat × Nat × Nat)) (x : Nat × Nat × Nat × Nat) (name : String), hh = pre ++ x :: suf ∧ (∀ z ∈ pre, z.2.2.2 ≠ 0 ∧ ∃ nm : String, Cond.classLink own z.2.2.2 nm ∈ Ts ∧ va_Nc E nm s) ∧ covers ⟨x.1, x.2.1, x.2.2.1, x.2.2.2⟩ pc = true ∧ x.2.2.2 ≠ 0 ∧ Cond.classLink own x.2.2.2 name ∈ Ts ∧ Cond.castable E name ∈ zs ∧ ∀ q9 : Nat, jaW p l e R s m args below meth c (cells + rm.cells) (slots + rm.slots) Q D cl A nL (wr ++ cf u) lv x.2.2.1 [Value.ref q9])
    (k : ∀ (r : Int32) (u : S), post r u → jaW p l e R s m args below meth c (cells + rm.cells) (slots + rm.slots) Q D cl A nL (wr ++ cf u) lv (pc + 3) (Value.int r :: st)) : jaW p l e R s m args below meth c cells slots Q D cl A nL ws lv (pc) (st0) := by
  intro H L ls hP hD hS hl
  have hPc := hP.sub isC hC1
  have hDc := hD.sub isC hnC hC2
  have hF := va_free hD hS K.2.2.1 isC hC2
  refine vx_calli (vx_runV (g := F0 m pc ls st0) K.1 (hM H.size) cw ⟨jkX_blind _ _ _ _ _ _ _ _ _, va_recv K.2.1 hPc hc he, fun U hU hW => ⟨hav, ⟨by rw [hU], by rw [hU]; exact hPc, va_K.moved hW.alike (K.2.1.sub isT hT), hDc.weaken (fun _ _ _ _ => trivial)⟩, jZ_go hZ hW hU hS hF (fun _ h => h) (fun _ h => h)⟩⟩ rfl hn hl.1 hs0 (lv_room hst) hd hf) hS (fun q _ h => hF q h) hF (fun q _ h => hF q h) (fun E ce q9 u t H1 L1 ht hvm hpx hB hz hk1 hS1 hc1 hv1 hcl1 => ?_) (fun r u t H1 L1 ht hvm hw hB hz hk1 hS1 => ?_)
  · obtain ⟨hP2, hD2⟩ := va_join (wr := wr) (w1 := cf u) hP hD isC isR hC2 hR2 hnR hdis hk1 hF (ht ▸ hB.2.1) hB.2.2.2
    obtain ⟨pre, suf, x, name, e1, e2, e3, e4, e5, e6, e7⟩ := kx E u hB.1
    refine vx_catch (own := own) (name := name) (E := E) (ce := ce) K.1.2.2.2.1 (tableOf pre) ⟨x.1, x.2.1, x.2.2.1, x.2.2.2⟩ (tableOf suf) (by rw [hTb, e1]; simp [tableOf]) (fun z hz9 => ?_) e3 e4 (K.1.2.2.2.2 _ e5) (va_Nw.use (jzw_on (hZ.2.2.1 _ e6).1) (hZ.2.2.1 _ e6).2) hc1 hv1 hcl1 (e7 q9 H1 L1 ls hP2 hD2 hS1 hl)
    obtain ⟨z0, hz0, rfl⟩ := List.mem_map.mp hz9
    obtain ⟨f1, nm, f2, f3⟩ := e2 z0 hz0
    exact Or.inr ⟨f1, nm, K.1.2.2.2.2 _ f2, f3⟩
  · obtain ⟨hP2, hD2⟩ := va_join (wr := wr) (w1 := cf u) hP hD isC isR hC2 hR2 hnR hdis hk1 hF (ht ▸ hB.1) hB.2.2
    exact k r u hw H1 L1 ls hP2 hD2 hS1 hl
theorem ja_fcallSL (K : jaC p s m args meth c D cl tys cc nL Ts own ret A) {S : Type} {y : MethodName} {wm : List Cond} {rm : Room} {tyc : List (ClassId × FieldType)} {cf : S → va_W} {av : List Value} {w0 wr : va_W} {post : Int32 → S → Prop} {index n maxL : Nat} {bytes : ByteArray} {rt : Option FieldType} {hh : List (Nat × Nat × Nat × Nat)} {st0 : List Value} (isC isR isT : List Nat) (hC1 : isC.filterMap (fun i => ws[i]?) = w0) (hC2 : isC.map (fun i => ws[i]?) = w0.map some) (hnC : va_nd isC = true) (hR2 : isR.map (fun i => ws[i]?) = wr.map some) (hnR : va_nd isR = true) (hdis : ∀ i ∈ isR, i ∉ isC) (hT : isT.filterMap (fun i => tys[i]?) = tyc) (As : List Value) (hM : jkL l y wm rm D cl tyc cf av w0 post) (cw : vx_CSW R s args own index y bytes maxL rt hh wm rm rm.cells rm.slots n) (hav : As.toArray = av.toArray) (hn : As.length = n) (hs0 : st0 = As.reverse ++ st) (hst : (st.map fun v => v.category).sum ≤ 8) (hd : decode cc pc = .ok (.invokestatic index, 3)) (hf : cells + rm.cells ≤ R.cells ∧ slots + rm.slots ≤ R.slots) (hZ : jZL A s)
    (k : ∀ (r : Int32) (u : S), post r u → jaW p l e R s m args below meth c (cells + rm.cells) (slots + rm.slots) Q D cl A nL (wr ++ cf u) lv (pc + 3) (Value.int r :: st)) : jaW p l e R s m args below meth c cells slots Q D cl A nL ws lv (pc) (st0) := by
  intro H L ls hP hD hS hl
  have hPc := hP.sub isC hC1
  have hDc := hD.sub isC hnC hC2
  have hF := va_free hD hS K.2.2.1 isC hC2
  refine va_calli (vx_runSW (g := F0 m pc ls st0) K.1 (hM H.size) cw ⟨jkL_blind _ _ _ _ _ _ _, fun U hU hW => ⟨hav, ⟨by rw [hU], by rw [hU]; exact hPc, va_K.moved hW.alike (K.2.1.sub isT hT), hDc.weaken (fun _ _ _ _ => trivial)⟩, jZL_go hZ hW hU hS hF⟩⟩ rfl hn hl.1 hs0 (lv_room hst) hd hf) hS (fun q _ h => hF q h) hF (fun r u t H1 L1 ht hvm hw hB hz hk1 hS1 => ?_)
  obtain ⟨hP2, hD2⟩ := va_join (wr := wr) (w1 := cf u) hP hD isC isR hC2 hR2 hnR hdis hk1 hF (ht ▸ hB.1) hB.2.2
  exact k r u hw H1 L1 ls hP2 hD2 hS1 hl
end JA4
