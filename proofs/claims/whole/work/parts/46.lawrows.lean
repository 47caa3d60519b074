/-! the law's own methods: they catch -/
def NX (U : State) : Prop := va_Nc "java/lang/IllegalArgumentException" "java/util/NoSuchElementException" U ∧ va_Nc "java/lang/IllegalStateException" "java/util/NoSuchElementException" U ∧ va_Nc "java/lang/IllegalStateException" "java/lang/IllegalArgumentException" U
theorem NX.moved {u U : State} (hvm : u.vm.Alike U.vm) (h : NX u) : NX U := ⟨h.1.moved hvm, h.2.1.moved hvm, h.2.2.moved hvm⟩
def PL (dC : Nat → ClassId) (dI : Nat → Nat → Nat) (ws : va_W) (tys : List (ClassId × FieldType)) (sz : Nat) : State → Prop := fun U => U.heap.size = sz ∧ va_P (dC, dI) vwCl ws U.heap ∧ va_K (dC, dI) vwCl tys U ∧ va_D (fun _ => True) ws ∧ NB U ∧ XB U ∧ NX U
theorem va_MetT {l : Launch} {y : MethodName} {ws ws' : List Cond} {rm : Room} {Pc : Array Value → State → Prop} {Qc : Array Value → State → Outcome → State → Prop} {mc ms : Nat} {free : Addr → Prop} {cc : ByteArray} {maxL : Nat} {ret : Option FieldType} {hh : List (Nat × Nat × Nat × Nat)}
    (hy : plainName y.cls = true) (hw : ws = Cond.codeWith y cc maxL ret hh :: ws')
    (body : ∀ p e s m args below meth c s₁, BodyLoose p l y (headSpec ws rm) cc maxL ret e s m args below meth c s₁ → c.maxLocals = maxL → c.exceptionTable.toList = tableOf hh → Pc args s →
      W p l e (headSpec ws rm).room s m args below meth c s.heap [] 0 0 (MQ below Qc args s mc ms free) (entryFrame m args maxL)) : Met l y ws rm Pc Qc mc ms free := by
  refine va_MetW hy hw (fun p e s m args below meth c s₁ B hml hP => body p e s m args below meth c s₁ B hml ?_ hP)
  obtain ⟨m9, meth9, c9, hn9, h1, h2, -, -, h3, -⟩ := Cond.codeWith_spec (atoms_spec (ws := ws) B.pre _ (by rw [hw]; exact List.mem_cons_self))
  cases B.named.symm.trans hn9
  cases B.method.symm.trans h1
  cases (Stand.of_body B).code.symm.trans h2
  rw [← h3, table_eq]
def bY (x : Bool) : Int64 := if x = true then 1 else 0
theorem bY_t {x : Bool} (h : x = true) : (1 : Int64) = bY x := by subst h; rfl
theorem bY_f {x : Bool} (h : x = false) : (0 : Int64) = bY x := by subst h; rfl
section XY
variable {p : Program} {l : Launch} {e : Env} {R : Room} {s : State} {m : MethodId} {args : Array Value} {below : List Frame} {meth : Method} {c : Code} {H : Heap} {locs : List Loc} {cells slots : Nat} {Q : State → Prop}
variable {cc : ByteArray} {pc : Nat} {ls : Array Slot} {rest st0 : List Value} {D : va_G} {cl : List vw_C} {ws : va_W} {tys : List (ClassId × FieldType)} {A : Nat → Prop} {H0 : Heap} {a : Nat}
theorem xy_last (hexec : p.tables.exec = Jvm.exec) (hb : c.code = cc) (hK : va_K D cl tys s) (hP : va_P D cl ws H) (hD : va_D A ws) (hS : va_S A H0 H locs) (q0 t0 : Nat) {cA : ClassId} {f : Nat → Int64} (ha : ws[q0]? = some (a, .inl (cA, 1, .inr (.inl f)))) (ht : tys[t0]? = some (cA, .long)) {x : Int64} (hdg : decode cc pc = .ok (.lastore, 1))
    (kk : ∀ (H1 : Heap) (locs1 : List Loc), va_P D cl (ws.set q0 (a, .inl (cA, 1, .inr (.inl (vp_updL f 0 x))))) H1 → va_D A (ws.set q0 (a, .inl (cA, 1, .inr (.inl (vp_updL f 0 x))))) → va_S A H0 H1 locs1 → W p l e R s m args below meth c H1 locs1 cells slots Q (F0 m (pc + 1) ls rest)) : W p l e R s m args below meth c H locs cells slots Q (F0 m pc ls (.long x :: .int (iI 0) :: .ref a :: rest)) := by
  have h0 : (iI 0).toNatClampNeg = 0 := by decide +kernel
  refine va_last hexec hb hK hP hD hS q0 t0 ha ht (show ¬ (iI 0 < 0 ∨ 1 ≤ (iI 0).toNatClampNeg) from by decide +kernel) hdg ?_
  rw [h0]
  exact kk
theorem xy_lald (hexec : p.tables.exec = Jvm.exec) (hb : c.code = cc) (hK : va_K D cl tys s) (hP : va_P D cl ws H) (q0 t0 : Nat) {cA : ClassId} {f : Nat → Int64} (ha : ws[q0]? = some (a, .inl (cA, 1, .inr (.inl f)))) (ht : tys[t0]? = some (cA, .long)) (hdg : decode cc pc = .ok (.laload, 1))
    (kk : W p l e R s m args below meth c H locs cells slots Q (F0 m (pc + 1) ls (.long (f 0) :: rest))) : W p l e R s m args below meth c H locs cells slots Q (F0 m pc ls (.int (iI 0) :: .ref a :: rest)) := by
  have h0 : (iI 0).toNatClampNeg = 0 := by decide +kernel
  refine va_lald hexec hb hK hP q0 t0 ha ht (show ¬ (iI 0 < 0 ∨ 1 ≤ (iI 0).toNatClampNeg) from by decide +kernel) hdg ?_
  rw [h0]
  exact kk
end XY
abbrev mk0 (k : Int) : Int := m0 k
abbrev mk1 (k : Int) : Int := m1 k
abbrev mk2 (k : Int) : Int := m2 k
