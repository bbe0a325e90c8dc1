/-! System.arraycopy of ints, packed -/
section JA4
variable {p : Program} {l : Launch} {e : Env} {R : Room} {s : State} {m : MethodId} {args : Array Value} {below : List Frame} {meth : Method} {c : Code} {cells slots : Nat} {Q : State → Prop}
variable {D : va_G} {cl : List vw_C} {tys : List (ClassId × FieldType)} {A : Nat → Prop} {nL : Nat} {cc : ByteArray} {Ts : List Cond} {own : String} {ret : Option FieldType} {ws : va_W} {lv : List (Nat × Value)} {pc : Nat} {st : List Value}
theorem ja_copy (K : jaC p s m args meth c D cl tys cc nL Ts own ret A) {index : Nat} (hl1 : Cond.methodLink own index arraycopyName ∈ Ts) (hl2 : Cond.native arraycopyName ∈ Ts) (hl3 : Cond.static arraycopyName ∈ Ts) (hl4 : Cond.initialized "java/lang/System" ∈ Ts) (q0 q1 t0 : Nat) {a a0 : Nat} {cA : ClassId} {n0 n1 : Nat} {f g : Nat → Int32} {ws1 : va_W} (ha0 : ws[q0]? = some (a0, .inl (cA, n0, .inl f))) (ha1 : ws[q1]? = some (a, .inl (cA, n1, .inl g))) (ht0 : tys[t0]? = some (cA, .int)) {sp dp n : Int32} (sp0 dp0 k0 : Nat) (h1 : sp = nI sp0) (h2 : dp = nI dp0) (h3 : n = nI k0) (h4 : sp0 + k0 ≤ n0) (h5 : dp0 + k0 ≤ n1) (hn0 : n0 < 2 ^ 31) (hn1 : n1 < 2 ^ 31) (hframes : 1 ≤ R.frames) (hlocals : (st.map fun v => v.category).sum + (nativeFrameWords "java/lang/System" "arraycopy" 5 + 11) ≤ R.locals) (hd : decode cc pc = .ok (.invokestatic index, 3)) (hw : ws.set q1 (a, .inl (cA, n1, .inl (va_cpy f g sp0 dp0 k0))) = ws1) (k : jaW p l e R s m args below meth c cells slots Q D cl A nL ws1 lv (pc + 3) st) : jaW p l e R s m args below meth c cells slots Q D cl A nL ws lv pc (Value.int n :: Value.int dp :: Value.ref a :: Value.int sp :: Value.ref a0 :: st) := by
  subst h1
  subst h2
  subst h3
  intro H L ls hP hD hS hl
  have e1 : (nI sp0).toNatClampNeg = sp0 := nI_clamp (by omega)
  have e2 : (nI dp0).toNatClampNeg = dp0 := nI_clamp (by omega)
  have e3 : (nI k0).toNatClampNeg = k0 := nI_clamp (by omega)
  refine va_copyi K.1.1 K.1.2.1 (K.1.2.2.1.trans hl.1.symm) K.1.2.2.2.1 (K.1.2.2.2.2 _ hl1) (K.1.2.2.2.2 _ hl2) (K.1.2.2.2.2 _ hl3) (K.1.2.2.2.2 _ hl4) K.2.1 hP hD hS q0 q1 t0 t0 ha0 ha1 ht0 ht0 rfl (nI_pos (by omega)) (nI_pos (by omega)) (nI_pos (by omega)) (by rw [e1, e3]; exact h4) (by rw [e2, e3]; exact h5) (fun i _ => rfl) hframes hlocals hd ?_
  rw [e1, e2, e3, hw]
  exact fun H1 L1 hP1 hD1 hS1 => k H1 L1 ls hP1 hD1 hS1 hl
end JA4
