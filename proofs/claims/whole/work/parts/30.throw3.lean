/-! the row for new, dup, ldc, invokespecial, athrow -/
section TI
variable {p : Program} {l : Launch} {e : Env} {R : Room} {s : State} {m : MethodId} {args : Array Value} {below : List Frame} {meth : Method} {c : Code} {H : Heap} {locs : List Loc} {cells slots : Nat} {Q : State → Prop}
variable {Qc : Array Value → State → Outcome → State → Prop} {PX : String → Prop} {free : Addr → Prop} {mc ms : Nat} {ls : Array Slot} {rest : List Value} {pc : Nat} {cc : ByteArray}
theorem xl_ldcw (hexec : p.tables.exec = Jvm.exec) (hb : c.code = cc) {own tx : String} {index q : Nat} (hown : s.vm.findClass own = some m.cls) (hZ : vk_R own index tx q s) (hdg : decode cc pc = .ok (.ldc_w index, 3))
    (k : W p l e R s m args below meth c H locs cells slots Q (F0 m (pc + 3) ls (.ref q :: rest))) : W p l e R s m args below meth c H locs cells slots Q (F0 m pc ls rest) := by
  intro T hT X
  obtain ⟨t, a1, b1⟩ := k T hT X
  exact ⟨t, X.ldcStringW hexec hown (text := tx) (a := q) hZ.1 hZ.2 (g := F0 m pc ls rest) rfl (by rw [hb]; exact hdg) t a1, b1⟩
/-- which exceptions: the class, its constructor's link to the one above, its code -/
def xk (E : String) (k9 : Nat) (b9 : ByteArray) : Prop := (E, k9, b9) = ("java/util/NoSuchElementException", 13, prog_19_method_4_code) ∨ (E, k9, b9) = ("java/lang/IllegalArgumentException", 7, prog_10_method_2_code) ∨ (E, k9, b9) = ("java/lang/IllegalStateException", 7, prog_11_method_2_code)
theorem xk_w {E : String} {k9 : Nat} {b9 : ByteArray} (h : xk E k9 b9) (htb : ∀ w ∈ TB, w.before args s = true) (hB : XB s) : ∀ w ∈ xw_L E k9 b9, w.before args s = true := by
  rcases h with h | h | h <;> cases h
  · exact xw_N htb hB
  · exact xw_A htb hB
  · exact xw_I htb hB
theorem xk_i {E : String} {k9 : Nat} {b9 : ByteArray} (h : xk E k9 b9) (htb : ∀ w ∈ TB, w.before args s = true) : (Cond.initialized E).before args s = true := by
  rcases h with h | h | h <;> cases h
  · exact htb _ tw_44
  · exact htb _ tw_45
  · exact htb _ tw_46
theorem xk_d {E : String} {k9 : Nat} {b9 : ByteArray} (h : xk E k9 b9) : Bundle.fit E = true ∧ decode b9 0 = .ok (.aload_n 0, 1) ∧ decode b9 1 = .ok (.aload_n 1, 1) ∧ decode b9 2 = .ok (.invokespecial k9, 3) ∧ decode b9 5 = .ok (.return_, 1) := by
  rcases h with h | h | h <;> cases h <;> exact ⟨by decide +kernel, by decide +kernel, by decide +kernel, by decide +kernel, by decide +kernel⟩
theorem ex_fin (hexec : p.tables.exec = Jvm.exec) (hb : c.code = cc) (htr : l.stackTraces = false) {own E : String} {ic k9 : Nat} {b9 : ByteArray} (hown : s.vm.findClass own = some m.cls) (htb : ∀ w ∈ TB, w.before args s = true) (hB : XB s) (hk : xk E k9 b9) (hl : (Cond.methodLink own ic (Bundle.initS E)).before args s = true)
    {a sa : Nat} {cX : ClassId} {kX : Class} (hfX : s.vm.findClass E = some cX) (hkX : s.vm.classes[cX]? = some kX) (hcell : H[a]? = some (freshCell cX kX)) (hnew : s.heap.size ≤ a) (hml : ls.size = c.maxLocals) (hno : ∀ x ∈ c.exceptionTable.toList, False) (hlocks : meth.locks = false) (hx : PX E) (hc : cells ≤ mc) (hs : slots ≤ ms)
    (hRf : 5 < R.frames) (hRl : (rest.map fun v => v.category).sum + 82 ≤ R.locals) (d3 : decode cc pc = .ok (.invokespecial ic, 3)) (d4 : decode cc (pc + 3) = .ok (.athrow, 1)) :
    W p l e R s m args below meth c H [] cells slots (ex_MQ below Qc PX args s mc ms free) (F0 m pc ls (.ref sa :: .ref a :: .ref a :: rest)) := by
  intro T hT X
  have htr' : e.platform.stackTraces = false := by rw [X.admits.platform]; exact htr
  obtain ⟨k0, k1, k2, k3, k4⟩ := xk_d hk
  obtain ⟨U, st, hrun, hend, hW, hsame, ce, hce, hv, hcls⟩ := ex_ctor X hexec htr' hown htb hB k0 k1 k2 k3 k4 (xk_w hk htb hB) hl hfX hkX (by rw [hT]; exact hcell) hnew (msg := .ref sa) rfl
    (g := F0 m pc ls (.ref sa :: .ref a :: .ref a :: rest)) rfl hml rfl rfl (rest := rest) rfl (by rw [hb]; exact d3) (by rw [hb]; exact d4) (fun x hx => (hno x hx).elim) hRf
    (by simp only [List.map_cons, List.sum_cons]; show 2 * 0 + (1 + (rest.map fun v => v.category).sum) + 81 ≤ _; omega) hlocks
  exact ⟨U, st, .threw a, hrun, hend, Or.inr ⟨a, E, ce, rfl, hx, hce, hv, by rw [hcls]; exact hfX, hW, hsame.mono hc hs⟩⟩
theorem ex_new (hexec : p.tables.exec = Jvm.exec) (hb : c.code = cc) {own E : String} {i0 k9 : Nat} {b9 : ByteArray} (hown : s.vm.findClass own = some m.cls) (htb : ∀ w ∈ TB, w.before args s = true) (hB : XB s) (hk : xk E k9 b9) (hcl : (Cond.classLink own i0 E).before args s = true)
    (hz : s.heap.size ≤ H.size) (hR : cells + 1 ≤ R.cells ∧ slots + 6 ≤ R.slots) (d0 : decode cc pc = .ok (.new i0, 3)) (d1 : decode cc (pc + 3) = .ok (.dup, 1))
    (kk : ∀ (H1 : Heap) (a : Nat) (cX : ClassId) (kX : Class), s.vm.findClass E = some cX → s.vm.classes[cX]? = some kX → H1[a]? = some (freshCell cX kX) → s.heap.size ≤ a → W p l e R s m args below meth c H1 locs (cells + 1) (slots + 6) Q (F0 m (pc + 3 + 1) ls (.ref a :: .ref a :: rest))) :
    W p l e R s m args below meth c H locs cells slots Q (F0 m pc ls rest) := by
  intro T hT X
  obtain ⟨vm₁, cX, kX, hfX, hkX, -, -, X₁, st1⟩ := X.newCold hexec hown hcl (xk_w hk htb hB _ (by simp [xw_L])) (xk_i hk htb) (g := F0 m pc ls rest) rfl (by rw [hb]; exact d0) hR.1 hR.2
  have hq : ((T.setVm vm₁).pushCell { cls := cX, slots := kX.instanceTypes.map defaultValue, vm := .none }).heap[T.heap.size]? = some (freshCell cX kX) := State.heap_pushCell_size _ _
  obtain ⟨t, a1, b1⟩ := (lv_dup (rest := rest) hexec hb d1 rfl (kk _ T.heap.size cX kX hfX hkX hq (by rw [hT]; exact hz))) _ rfl X₁
  exact ⟨t, st1 _ a1, b1⟩
theorem ex_throw (hexec : p.tables.exec = Jvm.exec) (hb : c.code = cc) (htr : l.stackTraces = false) {E : String} {i0 i1 ic k9 : Nat} {b9 : ByteArray} (hown : s.vm.findClass "OrganConsole" = some m.cls) (htb : ∀ w ∈ TB, w.before args s = true) (hB : XB s) (hk : xk E k9 b9) (hcl : Cond.classLink "OrganConsole" i0 E ∈ TB) (hl : Cond.methodLink "OrganConsole" ic (Bundle.initS E) ∈ TB) (hi : i1 ∈ xs_k)
    (hz : s.heap.size ≤ H.size) (hR : cells + 1 ≤ R.cells ∧ slots + 6 ≤ R.slots) (hml : ls.size = c.maxLocals) (hno : ∀ x ∈ c.exceptionTable.toList, False) (hlocks : meth.locks = false) (hx : PX E) (hc : cells + 1 ≤ mc) (hs : slots + 6 ≤ ms) (hRf : 5 < R.frames) (hRl : (rest.map fun v => v.category).sum + 82 ≤ R.locals)
    (d0 : decode cc pc = .ok (.new i0, 3)) (d1 : decode cc (pc + 3) = .ok (.dup, 1)) (d2 : decode cc (pc + 4) = .ok (.ldc i1, 2)) (d3 : decode cc (pc + 6) = .ok (.invokespecial ic, 3)) (d4 : decode cc (pc + 9) = .ok (.athrow, 1)) :
    W p l e R s m args below meth c H [] cells slots (ex_MQ below Qc PX args s mc ms free) (F0 m pc ls rest) := by
  obtain ⟨tx, sa, hZ⟩ := hB.2.2.2.2.2 i1 hi
  exact ex_new hexec hb hown htb hB hk (htb _ hcl) hz hR d0 d1 (fun H1 a cX kX h1 h2 h3 h4 => va_ldcS hexec hb hown hZ d2 (ex_fin hexec hb htr hown htb hB hk (htb _ hl) h1 h2 h3 h4 hml hno hlocks hx hc hs hRf hRl d3 d4))
theorem ex_throwW (hexec : p.tables.exec = Jvm.exec) (hb : c.code = cc) (htr : l.stackTraces = false) {E : String} {i0 i1 ic k9 : Nat} {b9 : ByteArray} (hown : s.vm.findClass "OrganConsole" = some m.cls) (htb : ∀ w ∈ TB, w.before args s = true) (hB : XB s) (hk : xk E k9 b9) (hcl : Cond.classLink "OrganConsole" i0 E ∈ TB) (hl : Cond.methodLink "OrganConsole" ic (Bundle.initS E) ∈ TB) (hi : i1 ∈ xs_k)
    (hz : s.heap.size ≤ H.size) (hR : cells + 1 ≤ R.cells ∧ slots + 6 ≤ R.slots) (hml : ls.size = c.maxLocals) (hno : ∀ x ∈ c.exceptionTable.toList, False) (hlocks : meth.locks = false) (hx : PX E) (hc : cells + 1 ≤ mc) (hs : slots + 6 ≤ ms) (hRf : 5 < R.frames) (hRl : (rest.map fun v => v.category).sum + 82 ≤ R.locals)
    (d0 : decode cc pc = .ok (.new i0, 3)) (d1 : decode cc (pc + 3) = .ok (.dup, 1)) (d2 : decode cc (pc + 4) = .ok (.ldc_w i1, 3)) (d3 : decode cc (pc + 7) = .ok (.invokespecial ic, 3)) (d4 : decode cc (pc + 10) = .ok (.athrow, 1)) :
    W p l e R s m args below meth c H [] cells slots (ex_MQ below Qc PX args s mc ms free) (F0 m pc ls rest) := by
  obtain ⟨tx, sa, hZ⟩ := hB.2.2.2.2.2 i1 hi
  exact ex_new hexec hb hown htb hB hk (htb _ hcl) hz hR d0 d1 (fun H1 a cX kX h1 h2 h3 h4 => xl_ldcw hexec hb hown hZ d2 (ex_fin hexec hb htr hown htb hB hk (htb _ hl) h1 h2 h3 h4 hml hno hlocks hx hc hs hRf hRl d3 d4))
end TI
