/-! a caller that catches: the search through its table, then the handler -/
theorem cx_aux (vm : Vm) (n : Nat) (c : ClassId) : vm.assignableAux (n + 1) c c = true := by rw [Vm.assignableAux, beq_self_eq_true, Bool.true_or]
theorem cx_same (vm : Vm) (c : ClassId) : vm.assignable c c = true := cx_aux vm 255 c
section CX
variable {Q : Handler → Pre} {E : CtlPost} {e : Env} {d : Bool} {acts : List Action} {s : State} {f : JFrame} {a : Addr}
theorem cx_link {x : ExceptionTableEntry} {t : List ExceptionTableEntry} {c : ClassId} {cell : Cell} {b : Bool} (hx : covers x f.pc = true) (h0 : x.catchType ≠ 0)
    (hl : s.vm.ClassLinks e.platform f.method.cls x.catchType c) (hcell : s.heap[a]? = some cell) (hobj : ∀ k, cell.vm ≠ .statics k)
    (hk : ∃ k, s.vm.classes[cell.cls]? = some k) (hc : ∃ k, s.vm.classes[c]? = some k) (hfit : s.vm.assignable cell.cls c = b) :
    wp (findHandler.go f a (x :: t)) Q E e d acts s ↔ (if b = true then Q (.found x.handlerPc) d acts (s.setVm (s.vm.noted f.method.cls x.catchType (.cls c))) else wp (findHandler.go f a t) Q E e d acts (s.setVm (s.vm.noted f.method.cls x.catchType (.cls c)))) := by
  simp only [covers] at hx
  obtain ⟨ha, ht⟩ := (resolveClass_links e.toSetting hl).op (op := VmOp.resolveClass f.method.cls x.catchType) rfl
  have hal : s.vm.Alike (s.vm.noted f.method.cls x.catchType (.cls c)) := (Vm.Alike.refl s.vm).noted _ _ _
  obtain ⟨k1, hk1⟩ := hk
  obtain ⟨k2, hk2⟩ := hc
  obtain ⟨k1', hk1', -⟩ := hal.2.2 _ _ hk1
  obtain ⟨k2', hk2', -⟩ := hal.2.2 _ _ hk2
  have hfit' : (s.vm.noted f.method.cls x.catchType (.cls c)).assignable cell.cls c = b := by rw [hal.assignable]; exact hfit
  cases b <;> simp [findHandler.go, hx, h0, ha, ht, hcell, hobj, hk1', hk2', hfit', VmOp.dirties, VmOp.acts]
end CX
section CXG
variable {e : Env} {s0 : State} {f : JFrame} {a : Addr} {cell : Cell} {own C : String} {args : Array Value}
theorem cx_go (hpl : e.platform.magicAccessors = ({} : Platform).magicAccessors) (hown : s0.vm.findClass own = some f.method.cls) (hobj : ∀ k, cell.vm ≠ .statics k) (hE : s0.vm.findClass C = some cell.cls)
    (x : ExceptionTableEntry) (rest : List ExceptionTableEntry) (hx : covers x f.pc = true) (h0 : x.catchType ≠ 0) (hlink : (Cond.classLink own x.catchType C).before args s0 = true) :
    ∀ (pre : List ExceptionTableEntry) (S : State), s0.WarmedH S.vm → S.heap[a]? = some cell → (∀ z ∈ pre, covers z f.pc = true ∧ z.catchType ≠ 0 ∧ ∃ nm : String, (Cond.classLink own z.catchType nm).before args s0 = true ∧ va_Nc C nm s0) →
      ∃ vm', s0.WarmedH vm' ∧ ∀ (Q : Handler → Pre) (E : CtlPost) (d : Bool) (acts : List Action), wp (findHandler.go f a (pre ++ x :: rest)) Q E e d acts S ↔ Q (.found x.handlerPc) d acts (S.setVm vm') := by
  obtain ⟨k0, hk0⟩ := Vm.classAt_of_findClass hE
  intro pre
  induction pre with
  | nil =>
    intro S hW hcell _
    obtain ⟨k0', hk0', -⟩ := hW.alike.2.2 _ _ hk0
    obtain ⟨c, hc, hl⟩ := Cond.classLink_spec hown hlink e.platform hpl
    cases hE.symm.trans hc
    obtain ⟨dk, _, _, kt, hd, _, _, _, _, hkt, _, hopen⟩ := hl.here
    exact ⟨_, hW.noted hd hopen (State.rightAt_cls hl), fun Q E d acts => by
      rw [List.nil_append, cx_link hx h0 (hW.classLinks hl) hcell hobj ⟨k0', hk0'⟩ ⟨k0', hk0'⟩ (cx_same _ _), if_pos rfl]⟩
  | cons y ys ih =>
    intro S hW hcell hpass
    obtain ⟨k0', hk0', -⟩ := hW.alike.2.2 _ _ hk0
    obtain ⟨hcov, h00, nm, hlk, cC, cN, hC, hN, hno⟩ := hpass y (List.mem_cons_self ..)
    cases hE.symm.trans hC
    obtain ⟨c, hc, hl⟩ := Cond.classLink_spec hown hlk e.platform hpl
    cases hN.symm.trans hc
    obtain ⟨dk, _, _, kt, hd, _, _, _, _, hkt, _, hopen⟩ := hl.here
    obtain ⟨kt', hkt', -⟩ := hW.alike.2.2 _ _ hkt
    obtain ⟨vm', hW', hq⟩ := ih (S.setVm (S.vm.noted f.method.cls y.catchType (.cls cN))) (hW.noted hd hopen (State.rightAt_cls hl)) hcell (fun z hz => hpass z (List.mem_cons_of_mem _ hz))
    exact ⟨vm', hW', fun Q E d acts => by
      rw [List.cons_append, cx_link (b := false) hcov h00 (hW.classLinks hl) hcell hobj ⟨k0', hk0'⟩ ⟨kt', hkt'⟩ (by rw [hW.alike.assignable]; exact hno), if_neg (by decide)]
      exact hq Q E d acts⟩
end CXG
/-- the step that finds a handler: the frame goes on there, with the tables that the search has left -/
theorem cx_land {tb : Tables} {e : Env} {s target : State} {g : JFrame} {c : Code} {below : List Frame} {q : Addr} {hpc : Nat} {vm' : Vm} (h : At s g.method c below)
    (hf : ∀ (Q : Handler → Pre) (E : CtlPost) (d : Bool) (acts : List Action), wp (findHandler g q) Q E e d acts ((s.setTop g).pushFrame (.throwing q)) ↔ Q (.found hpc) d acts (((s.setTop g).pushFrame (.throwing q)).setVm vm'))
    (hgo : Steps tb e below ((s.setVm vm').setTop { g with pc := hpc, stack := [.ref q] }) target) : Steps tb e below ((s.setTop g).pushFrame (.throwing q)) target := by
  obtain ⟨g0, hg0⟩ := Option.isSome_iff_exists.mp h.top
  obtain ⟨fs, hfs⟩ := State.topJava?_eq_some.mp hg0
  have hfs' : (s.setVm vm').frames = .java g0 :: fs := hfs
  have key : (stepThread tb e ((s.setTop g).pushFrame (.throwing q))).1 = (s.setVm vm').setTop { g with pc := hpc, stack := [.ref q] } := by
    rw [stepThread_throwing (frames_entered h.top _), hfs, List.tail_cons, State.setTop_of_frames _ hfs']
    generalize hS : (s.setTop g).pushFrame (.throwing q) = S at hf ⊢
    unfold stepThrowing
    simp only [searchFrame, vmDo]
    generalize hres : Sem.go _ e false [] S = res
    obtain ⟨as, e1, -⟩ := Sem.eq_ok_of hres (a := Handler.found hpc) (s' := S.setVm vm') (acts' := []) (by simp [hf _ _ _ _])
    subst e1
    subst hS
    show ((((s.setTop g).pushFrame (.throwing q)).setVm vm').setFrames _) = _
    rw [State.pushFrame, State.setTop_of_frames _ hfs]
    rw [State.setFrames_setFrames]
    exact State.setFrames_setFrames (s.setVm vm') _ _
  exact Steps.head (h.throwing q).1 (h.throwing q).2 (by rw [key]; exact hgo)
section EXC
variable {p : Program} {l : Launch} {e : Env} {R : Room} {s : State} {m : MethodId} {args : Array Value} {below : List Frame} {meth : Method} {c : Code} {H : Heap} {locs : List Loc} {cells slots : Nat} {Q : State → Prop} {ls : Array Slot} {rest st0 : List Value} {pc : Nat}
theorem ex_catch {own C : String} {ce : Cell} {q : Addr} (hown : s.vm.findClass own = some m.cls) (pre : List ExceptionTableEntry) (x : ExceptionTableEntry) (suf : List ExceptionTableEntry) (hsplit : c.exceptionTable.toList = pre ++ x :: suf)
    (hpass : ∀ z ∈ pre, covers z pc = true ∧ z.catchType ≠ 0 ∧ ∃ nm : String, (Cond.classLink own z.catchType nm).before args s = true ∧ va_Nc C nm s) (hx : covers x pc = true) (h0 : x.catchType ≠ 0)
    (hlink : (Cond.classLink own x.catchType C).before args s = true) (hcell : H[q]? = some ce) (hv : ce.vm = .none) (hcl : s.vm.findClass C = some ce.cls)
    (kk : W p l e R s m args below meth c H locs cells slots Q (F0 m x.handlerPc ls [.ref q])) : ex_W p l e R s m args below meth c H locs cells slots Q (F0 m pc ls rest) q := by
  intro T hT X
  have hpl : e.platform.magicAccessors = ({} : Platform).magicAccessors := by rw [X.admits.platform]
  obtain ⟨vm', hW', hq⟩ := cx_go (e := e) (s0 := s) (f := F0 m pc ls rest) (a := q) (cell := ce) (own := own) (C := C) (args := args) hpl hown (fun k z => by rw [hv] at z; cases z) hcl x suf hx h0 hlink pre ((T.setTop (F0 m pc ls rest)).pushFrame (.throwing q)) X.warmed
    (by show T.heap[q]? = some ce; rw [hT]; exact hcell) hpass
  obtain ⟨t, a1, b1⟩ := kk (T.setVm vm') hT (X.noted hW')
  have hm : ((T.setTop (F0 m pc ls rest)).pushFrame (.throwing q)).vm.method? (F0 m pc ls rest).method = some meth := X.method'
  refine ⟨t, cx_land X.here (hpc := x.handlerPc) (vm' := vm') (fun Q9 E9 d9 acts9 => ?_) a1, b1⟩
  rw [W.findHandler_eq hm X.code, hsplit]
  exact hq Q9 E9 d9 acts9
/-- a callee that throws without fail, and the caller's handler -/
theorem ex_try {Qa : State → Outcome → State → Prop} {PX : String → Prop} {free : Addr → Prop} {mc ms : Nat} (hr : ex_Run p l e R s m args below meth c H locs cells slots mc ms (F0 m pc ls st0) rest Qa PX free) (hQ : ∀ a o t, Qa a o t → False)
    (kk : ∀ (q : Addr) (E : String) (ce : Cell) (H1 : Heap), PX E → H1[q]? = some ce → ce.vm = .none → s.vm.findClass E = some ce.cls → H.size ≤ H1.size → (∀ z : Nat, z < H.size → H1[z]? = H[z]?) → ex_W p l e R s m args below meth c H1 locs (cells + mc) (slots + ms) Q (F0 m pc ls rest) q) :
    W p l e R s m args below meth c H locs cells slots Q (F0 m pc ls st0) := by
  intro T hT X
  rcases hr T hT X with ⟨v, st₀, t, T', L, -, -, -, -, -, hF, -⟩ | ⟨q, E, ce, T', h6, X', h7, h8, h9, h10, h11, st⟩
  · exact (hQ _ _ _ hF).elim
  · obtain ⟨t, a1, b1⟩ := kk q E ce T'.heap h6 h7 h8 h9 h10 h11 T' rfl X'
    exact ⟨t, st.trans a1, b1⟩
end EXC
