/-! Methods that may throw, and catching. -/
section JA3
variable {p : Program} {l : Launch} {e : Env} {R : Room} {s : State} {m : MethodId} {args : Array Value} {below : List Frame} {meth : Method} {c : Code} {cells slots : Nat} {Q : State → Prop}
variable {D : va_G} {cl : List vw_C} {tys : List (ClassId × FieldType)} {A : Nat → Prop} {nL : Nat} {cc : ByteArray} {Ts : List Cond} {own : String} {ret : Option FieldType} {ws : va_W} {lv : List (Nat × Value)} {pc : Nat} {st : List Value}
def jzw : Cond → Bool
  | .castable _ _ => true
  | .declares _ => true
  | _ => false
theorem jzw_warm {w : Cond} {s U : State} (hw : jzw w = true) (hW : s.WarmedH U.vm) (h : va_Nw w s) : va_Nw w U := by
  cases w <;> first | exact va_Nw.warmC hW h | exact va_Nw.warmD hW h | (simp [jzw] at hw)
theorem jzw_on {w : Cond} (hw : jzw w = true) : w.onTables = true := by
  cases w <;> first | rfl | (simp [jzw] at hw)
/-- what a throw needs of the start: two statics of Throwable, words on the exceptions, the texts -/
def jZ (A : Nat → Prop) (zs : List Cond) (tx : List (String × Nat × String)) (U : State) : Prop :=
  vx_Zq Bundle.tN "UNASSIGNED_STACK" Bundle.steD A U U.heap ∧ vx_Zq Bundle.tN "SUPPRESSED_SENTINEL" Bundle.listD A U U.heap ∧ (∀ w ∈ zs, jzw w = true ∧ va_Nw w U) ∧ ∀ t ∈ tx, ∃ sa, vk_R t.1 t.2.1 t.2.2 sa U
theorem jZ_go {A B : Nat → Prop} {zs zs1 : List Cond} {tx tx1 : List (String × Nat × String)} {s U : State} {H : Heap} {L : List Loc} (h : jZ A zs tx s) (hW : s.WarmedH U.vm) (hU : U.heap = H) (hS : va_S A s.heap H L) (hAB : ∀ q, B q → A q) (h1 : ∀ w ∈ zs1, w ∈ zs) (h2 : ∀ t ∈ tx1, t ∈ tx) : jZ B zs1 tx1 U := by
  obtain ⟨a, b, c, d⟩ := h
  refine ⟨?_, ?_, fun w hw => ⟨(c w (h1 w hw)).1, jzw_warm (c w (h1 w hw)).1 hW (c w (h1 w hw)).2⟩, fun t ht => ?_⟩
  · rw [hU]; exact vx_Zq.moved hW.alike ((a.kept hS.2.1).narrow hAB)
  · rw [hU]; exact vx_Zq.moved hW.alike ((b.kept hS.2.1).narrow hAB)
  · obtain ⟨sa, hsa⟩ := d t (h2 t ht)
    exact ⟨sa, vk_R.warm hW hsa⟩
def jkX {S : Type} (l : Launch) (y : MethodName) (wm : List Cond) (rm : Room) (D : va_G) (cl : List vw_C) (tys : List (ClassId × FieldType)) (zs : List Cond) (tx : List (String × Nat × String)) (cf : S → va_W) (av : List Value) (w0 : va_W) (post : Int32 → S → Prop) (px : String → S → Prop) : Prop :=
  ∀ sz : Nat, vx_Met l y wm rm (va_Pc av (fun U => jkP D cl tys w0 sz U ∧ jZ (va_A w0 sz) zs tx U)) (va_Qi post (jkA D cl tys (va_A w0 sz) cf) (va_A w0 sz)) (vx_X (fun _ : S => True) (fun E u t => px E u ∧ jkA D cl tys (va_A w0 sz) cf u t) (va_A w0 sz)) rm.cells rm.slots (va_A w0 sz)
theorem jkX_blind (D : va_G) (cl : List vw_C) (tys : List (ClassId × FieldType)) (A : Nat → Prop) (zs : List Cond) (tx : List (String × Nat × String)) (av : List Value) (ws : va_W) (sz : Nat) : FrameBlind (va_Pc av (fun U => jkP D cl tys ws sz U ∧ jZ A zs tx U)) := fun a U g mk q => by
  obtain ⟨q0, ⟨q1, qP, qK, qD⟩, qa, qb, qc, qd⟩ := q
  refine ⟨q0, ⟨q1, qP, va_K.moved (u := U) (U := U.calling g mk a) (Vm.Alike.refl U.vm) qK, qD⟩, vx_Zq.moved (u := U) (U := U.calling g mk a) (Vm.Alike.refl U.vm) qa, vx_Zq.moved (u := U) (U := U.calling g mk a) (Vm.Alike.refl U.vm) qb, fun w hw => ⟨(qc w hw).1, va_Nw.same (u := U) (U := U.calling g mk a) (jzw_on (qc w hw).1) rfl (qc w hw).2⟩, fun t ht => ?_⟩
  obtain ⟨sa, hsa⟩ := qd t ht
  exact ⟨sa, vk_R.same (u := U) (U := U.calling g mk a) rfl hsa⟩
theorem jkX_of {S : Type} {l : Launch} {y : MethodName} {wm wm' : List Cond} {rm : Room} {D : va_G} {cl : List vw_C} {tys : List (ClassId × FieldType)} {zs : List Cond} {tx : List (String × Nat × String)} {cf : S → va_W} {av : List Value} {w0 : va_W} {post : Int32 → S → Prop} {px : String → S → Prop} {cc : ByteArray} {maxL : Nat} {ret : Option FieldType} (hy : plainName y.cls = true) (hw : wm = Cond.code y cc maxL ret :: wm') (hav : (lg_sl av).length ≤ maxL)
    (body : ∀ (p : Program) (e : Env) (R : Room) (s : State) (m : MethodId) (args : Array Value) (below : List Frame) (meth : Method) (c : Code) (Q : State → Prop) (A : Nat → Prop), jaC p s m args meth c D cl tys cc maxL wm y.cls ret A → meth.name = y.name → R = rm → (∀ x ∈ c.exceptionTable.toList, False) → jZ A zs tx s → Q = vx_MQ below (va_Qi post (jkA D cl tys A cf) A) (vx_X (fun _ : S => True) (fun E u t => px E u ∧ jkA D cl tys A cf u t) A) args s rm.cells rm.slots A →
      jaW p l e R s m args below meth c 0 0 Q D cl A maxL w0 (lv_args 0 av) 0 []) : jkX l y wm rm D cl tys zs tx cf av w0 post px := by
  intro sz
  refine vx_ofW (cc := cc) (maxL := maxL) (ret := ret) hy hw ?_
  intro p e s m args below meth c s₁ B hml hEx hv
  obtain ⟨rfl, ⟨hsz, hP, hK, hD0⟩, hZ⟩ := hv
  subst hsz
  rw [lg_entry_eq]
  exact body p e (headSpec wm rm).room s m av.toArray below meth c _ (va_A w0 s.heap.size) ⟨⟨B.exec, B.bytes, hml, findClass_of_methodNamed B.named, atoms_spec (ws := wm) B.pre⟩, hK, fun q h => Or.inr h, B.returns, B.notSynchronized⟩ (name_of_methodNamed B.named B.method).1 rfl hEx hZ rfl s.heap [] _ hP (hD0.self) va_S.rf (lv_entry av hav)
theorem ja_iretX (K : jaC p s m args meth c D cl tys cc nL Ts own ret A) {S : Type} {cf : S → va_W} {post : Int32 → S → Prop} {px : String → S → Prop} {mc ms : Nat} {v : Int32} {ty : FieldType} (u : S) (hret : ret = some ty) (hn : narrow ty (.int v) = .int v) (hc : cells ≤ mc) (hs : slots ≤ ms) (hd : decode cc pc = .ok (.ireturn, 1)) (hQ : Q = vx_MQ below (va_Qi post (jkA D cl tys A cf) A) (vx_X (fun _ : S => True) (fun E u t => px E u ∧ jkA D cl tys A cf u t) A) args s mc ms A) (hw : ws = cf u) (hp : post v u) : jaW p l e R s m args below meth c cells slots Q D cl A nL ws lv (pc) ([Value.int v]) := by
  subst hQ
  subst hw
  subst hret
  intro H L ls hP hD hS hl
  refine W.widen hc hs (vx_ret ?_)
  exact W.zret (v := v) K.1.1 K.1.2.1 K.2.2.2.1 hn (fun t ht hW => ⟨⟨v, u, rfl, hp, by rw [ht]; exact hP, va_K.moved hW.alike K.2.1, hD⟩, hS.F ht⟩) hS.2.2 hd K.2.2.2.2
theorem ja_throwS (K : jaC p s m args meth c D cl tys cc nL Ts own ret A) {S : Type} {cf : S → va_W} {Qc : Array Value → State → Outcome → State → Prop} {px : String → S → Prop} {mc ms : Nat} {cls text : String} {names : List String} {ik is ic : Nat} {zs : List Cond} {tx : List (String × Nat × String)} (u : S) (hst : l.stackTraces = false) (hEx : ∀ x ∈ c.exceptionTable.toList, False) (hZ : jZ A zs tx s) (hcls : Bundle.fit cls = true) (hnames : ∀ n ∈ names, Bundle.fit n = true) (hk : Cond.classLink own ik cls ∈ Ts) (hini : Cond.initialized cls ∈ Ts) (htx : (own, is, text) ∈ tx) (hat1 : ∀ w ∈ (vx_atS own ic cls names).filter goodWord, w ∈ Ts) (hat2 : ∀ w ∈ (vx_atS own ic cls names).filter (fun w => !goodWord w), w ∈ zs) (hgood : ∀ w ∈ Cond.classLink own ik cls :: Cond.initialized cls :: vx_atS own ic cls names, vx_ot w = true) (d0 : decode cc pc = .ok (.new ik, 3)) (d3 : decode cc (pc + 3) = .ok (.dup, 1)) (d4 : decode cc (pc + 4) = .ok (.ldc is, 2)) (d6 : decode cc (pc + 6) = .ok (.invokespecial ic, 3)) (d9 : decode cc (pc + 9) = .ok (.athrow, 1)) (hRf : names.length + 3 < R.frames) (hRl : (st.map fun v => v.category).sum + (13 * (names.length + 1) + 43) ≤ R.locals) (hRc : cells + 1 ≤ R.cells) (hRs : slots + 6 ≤ R.slots) (hc : cells + 1 ≤ mc) (hs : slots + 6 ≤ ms) (hQ : Q = vx_MQ below Qc (vx_X (fun _ : S => True) (fun E u t => px E u ∧ jkA D cl tys A cf u t) A) args s mc ms A) (hw : ws = cf u) (hp : px cls u) : jaW p l e R s m args below meth c cells slots Q D cl A nL ws lv (pc) (st) := by
  subst hQ
  subst hw
  intro H L ls hP hD hS hl
  obtain ⟨hU, hN, hzs, htxs⟩ := hZ
  obtain ⟨sa, hsa⟩ := htxs _ htx
  exact vx_throwS (own := own) (cls := cls) (names := names) K.1.1 K.1.2.1 hst K.1.2.2.2.1 hcls hnames (K.1.2.2.2.2 _ hk) (K.1.2.2.2.2 _ hini) hsa (vx_hat (L := vx_atS own ic cls names) (B := zs) (fun w hw => K.1.2.2.2.2 w (hat1 w hw)) hat2 (fun w hw => va_Nw.use (jzw_on (hzs w hw).1) (hzs w hw).2)) hgood hU hN hS (hl.1.trans K.1.2.2.1.symm) d0 d3 d4 d6 d9 (fun x hx => (hEx x hx).elim) hRf hRl hRc hRs K.2.2.2.2 (fun t ha hsz hk => ⟨u, trivial, ⟨hp, hP.kept (fun k q hq => hk q.1 (hP k q hq).lt), va_K.moved ha K.2.1, hD⟩, Nat.le_trans hS.1 hsz, fun q h1 h2 => (hk q (Nat.lt_of_lt_of_le h1 hS.1)).trans (hS.2.1 q h1 h2)⟩) hS.2.2 hc hs
end JA3
