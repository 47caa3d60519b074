/-! void methods that only look; methods that throw without fail: what they ask, and what their callers do -/
def QN : Array Value → State → Outcome → State → Prop := fun _ st oc t => oc = .returned none ∧ t.heap = st.heap
def xE (k : Int) (E : String) : Prop := k = 1 ∧ E = "java/util/NoSuchElementException" ∨ k = 2 ∧ E = "java/lang/IllegalArgumentException" ∨ k = 3 ∧ E = "java/lang/IllegalStateException"
def PT (dC : Nat → ClassId) (dI : Nat → Nat → Nat) (ws : va_W) (tys : List (ClassId × FieldType)) : State → Prop := fun U => va_P (dC, dI) vwCl ws U.heap ∧ va_K (dC, dI) vwCl tys U ∧ NB U ∧ XB U
theorem XB.blind {s : State} {g : JFrame} {mk : MethodId} {a : Array Value} (h : XB s) : XB (s.calling g mk a) := h.move (U := s.calling g mk a) (State.WarmedH.refl s) (fun _ _ => rfl)
section PT
variable {dC : Nat → ClassId} {dI : Nat → Nat → Nat} {ws w0 : va_W} {tys : List (ClassId × FieldType)} {s : State}
theorem PT_b (av : List Value) : FrameBlind (va_Pc av (PT dC dI ws tys)) := fun a U g mk q => ⟨q.1, q.2.1, va_K.moved (u := U) (U := U.calling g mk a) (Vm.Alike.refl U.vm) q.2.2.1, NB.blind q.2.2.2.1, XB.blind q.2.2.2.2⟩
theorem XT_b (av : List Value) : FrameBlind (va_Pc av XB) := fun a U g mk q => ⟨q.1, XB.blind q.2⟩
theorem XT_S {av : List Value} (hB : XB s) : PreS s s.heap (va_Pc av XB) av := ⟨XT_b av, fun U hU hW => ⟨rfl, hB.move hW (fun a _ => by rw [hU])⟩⟩
theorem PT_S {av : List Value} (hP : va_P (dC, dI) vwCl ws s.heap) (hK : va_K (dC, dI) vwCl tys s) (hN : NB s) (hB : XB s) : PreS s s.heap (va_Pc av (PT dC dI ws tys)) av :=
  ⟨PT_b av, fun U hU hW => ⟨rfl, by rw [hU]; exact hP, va_K.moved hW.alike hK, hN.warm hW, hB.move hW (fun a _ => by rw [hU])⟩⟩
theorem PT_V {av : List Value} {b q0 ci : Nat} {C : String} {T : u_T} {N : Nat} {fs : List Value} (hP0 : va_P (dC, dI) vwCl w0 s.heap) (hP : va_P (dC, dI) vwCl ws s.heap) (hK : va_K (dC, dI) vwCl tys s) (hN : NB s) (hB : XB s) (he : w0[q0]? = some (b, .inr (ci, fs))) (hc : vwCl[ci]? = some (C, T, N)) : PreV s s.heap C b (va_Pc (.ref b :: av) (PT dC dI ws tys)) av :=
  ⟨PT_b _, va_recv hK hP0 hc he, fun U hU hW => ⟨rfl, by rw [hU]; exact hP, va_K.moved hW.alike hK, hN.warm hW, hB.move hW (fun a _ => by rw [hU])⟩⟩
end PT
section PN0
variable {p : Program} {l : Launch} {e : Env} {R : Room} {s : State} {m : MethodId} {args : Array Value} {below : List Frame} {meth : Method} {c : Code} {H : Heap} {locs : List Loc} {cells slots : Nat} {Q : State → Prop}
variable {cc : ByteArray} {pc : Nat} {ls : Array Slot} {rest st0 : List Value} {nL : Nat} {own : String} {index : Nat} {y : MethodName} {bytes : ByteArray} {maxL : Nat} {ret : Option FieldType} {rm : Room} {Pc : Array Value → State → Prop}
theorem pn_run {a : Array Value} (hr : va_Run p l e R s m args below meth c H locs cells slots 0 0 (F0 m pc ls st0) rest (QN a) (fun _ => False))
    (kk : W p l e R s m args below meth c H locs cells slots Q (F0 m (pc + 3) ls rest)) : W p l e R s m args below meth c H locs cells slots Q (F0 m pc ls st0) := by
  intro T hT X
  obtain ⟨v', st₀, t, T', L, h0, X', hL, e1, e2, ⟨hv, hh⟩, st⟩ := hr T hT X
  cases hv
  have hLn : L = [] := by
    cases L with
    | nil => rfl
    | cons q L => exact (hL q List.mem_cons_self).elim
  subst hLn
  rw [List.append_nil] at X'
  obtain ⟨t2, a1, b1⟩ := kk T' (by rw [e1, hh, h0]) X'
  exact ⟨t2, st t2 a1, b1⟩
theorem pnS (hx : p.tables.exec = Jvm.exec) (hb : c.code = cc) (hml : c.maxLocals = nL) (hown : s.vm.findClass own = some m.cls) (htb : ∀ w ∈ TB, w.before args s = true)
    (hM : Met l y (Cond.code y bytes maxL ret :: TB) rm Pc QN 0 0 (fun _ => False)) (h1 : Cond.methodLink own index y ∈ TB) (h2 : Cond.static y ∈ TB) (h3 : Cond.initialized y.cls ∈ TB) (h4 : Cond.code y bytes maxL ret ∈ TB)
    (n : Nat) (hd : y.cls ≠ "java/lang/invoke/MethodHandle" ∧ y.cls ≠ "java/lang/invoke/VarHandle" ∧ (parseMethodDescriptor y.desc).map (fun d => d.parameters.length) = some n)
    (hrc : rm.cells = 0) (hrs : rm.slots = 0) (hR : rm.frames + 1 ≤ R.frames ∧ 8 + (maxL + 11) + rm.locals ≤ R.locals) (hf : cells ≤ R.cells ∧ slots ≤ R.slots)
    (As : List Value) (hp : PreS s H Pc As) (hn : As.length = n) (hsize : ls.size = nL) (hst : st0 = As.reverse ++ rest) (hW : (rest.map fun v => v.category).sum ≤ 8) (hdg : decode cc pc = .ok (.invokestatic index, 3))
    (kk : W p l e R s m args below meth c H locs cells slots Q (F0 m (pc + 3) ls rest)) : W p l e R s m args below meth c H locs cells slots Q (F0 m pc ls st0) :=
  pn_run (va_runS (nL := nL) (As := As) (rest := rest) (Ts := TB) ⟨hx, hb, hml, hown, htb⟩ hM (va_cwS n htb (gd_S2 h1 h2 h3 h4) rfl hrc hrs hd hR) hp rfl hn hsize hst (by show 2 * 0 + _ ≤ 8; omega) hdg ⟨hf.1, hf.2⟩) kk
theorem pnV {b : Nat} (hx : p.tables.exec = Jvm.exec) (hb : c.code = cc) (hml : c.maxLocals = nL) (hown : s.vm.findClass own = some m.cls) (htb : ∀ w ∈ TB, w.before args s = true)
    (hM : Met l y (Cond.code y bytes maxL ret :: TB) rm Pc QN 0 0 (fun _ => False)) (h1 : Cond.methodLink own index y ∈ TB) (h2 : Cond.instanceMethod y ∈ TB) (h5 : Cond.selects y.cls y y ∈ TB) (h3 : Cond.initialized y.cls ∈ TB) (h4 : Cond.code y bytes maxL ret ∈ TB)
    (n : Nat) (hd : y.cls ≠ "java/lang/invoke/MethodHandle" ∧ y.cls ≠ "java/lang/invoke/VarHandle" ∧ (parseMethodDescriptor y.desc).map (fun d => d.parameters.length) = some n)
    (hrc : rm.cells = 0) (hrs : rm.slots = 0) (hR : rm.frames + 1 ≤ R.frames ∧ 8 + (maxL + 11) + rm.locals ≤ R.locals) (hf : cells ≤ R.cells ∧ slots ≤ R.slots)
    (As : List Value) (hp : PreV s H y.cls b Pc As) (hn : As.length = n) (hsize : ls.size = nL) (hst : st0 = As.reverse ++ .ref b :: rest) (hW : (rest.map fun v => v.category).sum ≤ 8) (hdg : decode cc pc = .ok (.invokevirtual index, 3))
    (kk : W p l e R s m args below meth c H locs cells slots Q (F0 m (pc + 3) ls rest)) : W p l e R s m args below meth c H locs cells slots Q (F0 m pc ls st0) :=
  pn_run (va_runV (nL := nL) (C := y.cls) (As := As) (rest := rest) (Ts := TB) ⟨hx, hb, hml, hown, htb⟩ hM (cwV n htb (gd_V h1 h2 h5 h3 h4) rfl hrc hrs ⟨rfl, hd⟩ hR) hp rfl hn hsize hst (by show 2 * 0 + _ ≤ 8; omega) hdg ⟨hf.1, hf.2⟩) kk
variable {Qc Qd : Array Value → State → Outcome → State → Prop} {PX PX1 : String → Prop} {free free1 : Addr → Prop} {mc ms mc1 ms1 : Nat}
/-- a static callee throws: the caller, which has no handlers, ends so too -/
theorem xcS (hx : p.tables.exec = Jvm.exec) (hb : c.code = cc) (hml : c.maxLocals = nL) (hown : s.vm.findClass own = some m.cls) (htb : ∀ w ∈ TB, w.before args s = true)
    (hM : ex_Met l y (Cond.code y bytes maxL ret :: TB) rm Pc (fun _ _ _ _ => False) PX1 mc1 ms1 free1) (h1 : Cond.methodLink own index y ∈ TB) (h2 : Cond.static y ∈ TB) (h3 : Cond.initialized y.cls ∈ TB) (h4 : Cond.code y bytes maxL ret ∈ TB)
    (n : Nat) (hd : y.cls ≠ "java/lang/invoke/MethodHandle" ∧ y.cls ≠ "java/lang/invoke/VarHandle" ∧ (parseMethodDescriptor y.desc).map (fun d => d.parameters.length) = some n)
    (hrc : rm.cells = mc1) (hrs : rm.slots = ms1) (hR : rm.frames + 1 ≤ R.frames ∧ 8 + (maxL + 11) + rm.locals ≤ R.locals) (hf : cells + mc1 ≤ R.cells ∧ slots + ms1 ≤ R.slots)
    (As : List Value) (hp : PreS s H Pc As) (hn : As.length = n) (hsize : ls.size = nL) (hst : st0 = As.reverse ++ rest) (hW : (rest.map fun v => v.category).sum ≤ 8) (hdg : decode cc pc = .ok (.invokestatic index, 3))
    (hno : ∀ x ∈ c.exceptionTable.toList, False) (hlocks : meth.locks = false) (himp : ∀ E, PX1 E → PX E) (hcm : cells + mc1 ≤ mc ∧ slots + ms1 ≤ ms) : W p l e R s m args below meth c H [] cells slots (ex_MQ below Qd PX args s mc ms free) (F0 m pc ls st0) := by
  intro T hT X
  rcases ex_runS (nL := nL) (As := As) (rest := rest) (Ts := TB) ⟨hx, hb, hml, hown, htb⟩ hM (va_cwS n htb (gd_S2 h1 h2 h3 h4) rfl hrc hrs hd hR) hp (g := F0 m pc ls st0) rfl hn hsize hst (by show 2 * 0 + _ ≤ 8; omega) hdg hf T hT X with ⟨v, st₀, t, T', L, -, -, -, -, -, hF, -⟩ | ⟨q, E, ce, T', h6, X', h7, h8, h9, -, -, st⟩
  · exact hF.elim
  · obtain ⟨t, a1, b1⟩ := (ex_out (Qc := Qd) (ls := ls) (rest := rest) (pc := pc) (free := free) (fun x hx => (hno x hx).elim) hlocks h7 h8 h9 (himp E h6) hcm.1 hcm.2) T' rfl X'
    exact ⟨t, st.trans a1, b1⟩
theorem xcV {b : Nat} (hx : p.tables.exec = Jvm.exec) (hb : c.code = cc) (hml : c.maxLocals = nL) (hown : s.vm.findClass own = some m.cls) (htb : ∀ w ∈ TB, w.before args s = true)
    (hM : ex_Met l y (Cond.code y bytes maxL ret :: TB) rm Pc (fun _ _ _ _ => False) PX1 mc1 ms1 free1) (h1 : Cond.methodLink own index y ∈ TB) (h2 : Cond.instanceMethod y ∈ TB) (h5 : Cond.selects y.cls y y ∈ TB) (h3 : Cond.initialized y.cls ∈ TB) (h4 : Cond.code y bytes maxL ret ∈ TB)
    (n : Nat) (hd : y.cls ≠ "java/lang/invoke/MethodHandle" ∧ y.cls ≠ "java/lang/invoke/VarHandle" ∧ (parseMethodDescriptor y.desc).map (fun d => d.parameters.length) = some n)
    (hrc : rm.cells = mc1) (hrs : rm.slots = ms1) (hR : rm.frames + 1 ≤ R.frames ∧ 8 + (maxL + 11) + rm.locals ≤ R.locals) (hf : cells + mc1 ≤ R.cells ∧ slots + ms1 ≤ R.slots)
    (As : List Value) (hp : PreV s H y.cls b Pc As) (hn : As.length = n) (hsize : ls.size = nL) (hst : st0 = As.reverse ++ .ref b :: rest) (hW : (rest.map fun v => v.category).sum ≤ 8) (hdg : decode cc pc = .ok (.invokevirtual index, 3))
    (hno : ∀ x ∈ c.exceptionTable.toList, False) (hlocks : meth.locks = false) (himp : ∀ E, PX1 E → PX E) (hcm : cells + mc1 ≤ mc ∧ slots + ms1 ≤ ms) : W p l e R s m args below meth c H [] cells slots (ex_MQ below Qd PX args s mc ms free) (F0 m pc ls st0) := by
  intro T hT X
  rcases ex_runV (nL := nL) (C := y.cls) (As := As) (rest := rest) (Ts := TB) ⟨hx, hb, hml, hown, htb⟩ hM (cwV n htb (gd_V h1 h2 h5 h3 h4) rfl hrc hrs ⟨rfl, hd⟩ hR) hp (g := F0 m pc ls st0) rfl hn hsize hst (by show 2 * 0 + _ ≤ 8; omega) hdg hf T hT X with ⟨v, st₀, t, T', L, -, -, -, -, -, hF, -⟩ | ⟨q, E, ce, T', h6, X', h7, h8, h9, -, -, st⟩
  · exact hF.elim
  · obtain ⟨t, a1, b1⟩ := (ex_out (Qc := Qd) (ls := ls) (rest := rest) (pc := pc) (free := free) (fun x hx => (hno x hx).elim) hlocks h7 h8 h9 (himp E h6) hcm.1 hcm.2) T' rfl X'
    exact ⟨t, st.trans a1, b1⟩
end PN0
