/-! methods that write in their own cells and make none -/
def PS (dC : Nat → ClassId) (dI : Nat → Nat → Nat) (ws : va_W) (tys : List (ClassId × FieldType)) (sz : Nat) : State → Prop := fun U => U.heap.size = sz ∧ va_P (dC, dI) vwCl ws U.heap ∧ va_K (dC, dI) vwCl tys U ∧ va_D (fun _ => True) ws ∧ NB U
def QW (dC : Nat → ClassId) (dI : Nat → Nat → Nat) (v : Option Value) (ws' : va_W) (A : Nat → Prop) : Array Value → State → Outcome → State → Prop := fun _ st oc t => oc = .returned v ∧ va_P (dC, dI) vwCl ws' t.heap ∧ va_F A st t
section WR
variable {dC : Nat → ClassId} {dI : Nat → Nat → Nat} {ws w0 : va_W} {tys : List (ClassId × FieldType)} {s : State} {H : Heap} {A0 : Nat → Prop}
theorem PS_b (av : List Value) (sz : Nat) : FrameBlind (va_Pc av (PS dC dI ws tys sz)) := fun a U g mk q => ⟨q.1, q.2.1, q.2.2.1, va_K.moved (u := U) (U := U.calling g mk a) (Vm.Alike.refl U.vm) q.2.2.2.1, q.2.2.2.2.1, NB.blind q.2.2.2.2.2⟩
theorem PS_S {av : List Value} (hP : va_P (dC, dI) vwCl ws H) (hK : va_K (dC, dI) vwCl tys s) (hD : va_D A0 ws) (hN : NB s) : PreS s H (va_Pc av (PS dC dI ws tys H.size)) av :=
  ⟨PS_b av _, fun U hU hW => ⟨rfl, by rw [hU], by rw [hU]; exact hP, va_K.moved hW.alike hK, hD.weaken (fun _ _ _ _ => trivial), hN.warm hW⟩⟩
theorem PS_V {av : List Value} {b q0 ci : Nat} {C : String} {T : u_T} {N : Nat} {fs : List Value} (hP0 : va_P (dC, dI) vwCl w0 H) (hP : va_P (dC, dI) vwCl ws H) (hK : va_K (dC, dI) vwCl tys s) (hD : va_D A0 ws) (hN : NB s) (he : w0[q0]? = some (b, .inr (ci, fs))) (hc : vwCl[ci]? = some (C, T, N)) : PreV s H C b (va_Pc (.ref b :: av) (PS dC dI ws tys H.size)) av :=
  ⟨PS_b _ _, va_recv hK hP0 hc he, fun U hU hW => ⟨rfl, by rw [hU], by rw [hU]; exact hP, va_K.moved hW.alike hK, hD.weaken (fun _ _ _ _ => trivial), hN.warm hW⟩⟩
theorem D_same {A : Nat → Prop} {w1 w2 : va_W} (h : w1.map (fun q => q.1) = w2.map (fun q => q.1)) (hD : va_D A w1) : va_D A w2 := by
  have key : ∀ (k : Nat) (q : Nat × va_E), w2[k]? = some q → ∃ q', w1[k]? = some q' ∧ q'.1 = q.1 := fun k q hk => by
    have h1 : (w2.map (fun q => q.1))[k]? = some q.1 := by rw [List.getElem?_map, hk]; rfl
    rw [← h, List.getElem?_map] at h1
    cases h2 : w1[k]? with
    | none => rw [h2] at h1; cases h1
    | some q' =>
      rw [h2] at h1
      exact ⟨q', rfl, Option.some.inj h1⟩
  refine ⟨fun i j x y hx hy he => ?_, fun k q hk => ?_⟩
  · obtain ⟨x', hx', ex⟩ := key i x hx
    obtain ⟨y', hy', ey⟩ := key j y hy
    exact hD.1 i j x' y' hx' hy' (by rw [ex, ey, he])
  · obtain ⟨q', hq', e⟩ := key k q hk
    rw [← e]
    exact hD.2 k q' hq'
/-- behind a call that wrote in the cells wc: the whole world, in its old order -/
theorem wc_join {ws wc wr w1 w2 : va_W} {H H1 : Heap} (hP : va_P (dC, dI) vwCl ws H) (hD : va_D A0 ws) (isC isR pm : List Nat) (hC : isC.map (fun i => ws[i]?) = wc.map some) (hR : isR.map (fun i => ws[i]?) = wr.map some) (hn : va_nd isR = true) (hnc : va_nd isC = true) (hdis : ∀ i ∈ isR, i ∉ isC)
    (ha : wc.map (fun q => q.1) = w1.map (fun q => q.1)) (hk : ∀ q : Nat, q < H.size → ¬ va_A wc H.size q → H1[q]? = H[q]?) (hF : ∀ q, va_A wc H.size q → A0 q) (hP1 : va_P (dC, dI) vwCl w1 H1) (hs : pm.filterMap (fun i => (wr ++ w1)[i]?) = w2) (hs2 : pm.map (fun i => (wr ++ w1)[i]?) = w2.map some) (hnp : va_nd pm = true) :
    va_P (dC, dI) vwCl w2 H1 ∧ va_D A0 w2 := by
  have hDc : va_D A0 wc := hD.sub isC hnc hC
  obtain ⟨hP9, hD9⟩ := va_join (wr := wr) (w1 := w1) hP hD isC isR hC hR hn hdis hk hF hP1 (D_same ha (hDc.self (sz := H.size)))
  exact ⟨hP9.sub pm hs, hD9.sub pm hnp hs2⟩
end WR
section WC
variable {p : Program} {l : Launch} {e : Env} {R : Room} {s : State} {m : MethodId} {args : Array Value} {below : List Frame} {meth : Method} {c : Code} {H : Heap} {locs : List Loc} {cells slots : Nat} {Q : State → Prop}
variable {cc : ByteArray} {pc : Nat} {ls : Array Slot} {rest st0 : List Value} {nL : Nat} {own : String} {index : Nat} {y : MethodName} {bytes : ByteArray} {maxL : Nat} {ret : Option FieldType} {rm : Room} {Pc : Array Value → State → Prop} {v : Option Value} {dC : Nat → ClassId} {dI : Nat → Nat → Nat} {ws' : va_W} {A0 A1 : Nat → Prop} {H0 : Heap}
theorem wc_run {a : Array Value} (hr : va_Run p l e R s m args below meth c H locs cells slots 0 0 (F0 m pc ls st0) rest (QW dC dI v ws' A1 a) A1) (hS : va_S A0 H0 H locs) (hA : ∀ q, A1 q → A0 q)
    (kk : ∀ (H1 : Heap) (locs1 : List Loc), va_P (dC, dI) vwCl ws' H1 → H.size ≤ H1.size → (∀ q : Nat, q < H.size → ¬ A1 q → H1[q]? = H[q]?) → va_S A0 H0 H1 locs1 → W p l e R s m args below meth c H1 locs1 cells slots Q (F0 m (pc + 3) ls (v.toList ++ rest))) : W p l e R s m args below meth c H locs cells slots Q (F0 m pc ls st0) := by
  intro T hT X
  obtain ⟨v', st₀, t, T', L, h0, X', hL, e1, e2, ⟨hv, hP, hz, hk⟩, st⟩ := hr T hT X
  cases hv
  rw [h0] at hz hk
  obtain ⟨t2, a1, b1⟩ := kk T'.heap (locs ++ L) (by rw [e1]; exact hP) (by rw [e1]; exact hz) (fun q h1 h2 => by rw [e1]; exact hk q h1 h2)
    ⟨Nat.le_trans hS.1 (by rw [e1]; exact hz), fun q h1 h2 => by rw [e1, hk q (Nat.lt_of_lt_of_le h1 hS.1) (fun z => h2 (hA q z))]; exact hS.2.1 q h1 h2, fun q hq => by
      rcases List.mem_append.mp hq with h | h
      · exact hS.2.2 q h
      · exact hA _ (hL q h)⟩ T' rfl X'
  exact ⟨t2, st t2 a1, b1⟩
theorem wcS (hx : p.tables.exec = Jvm.exec) (hb : c.code = cc) (hml : c.maxLocals = nL) (hown : s.vm.findClass own = some m.cls) (htb : ∀ w ∈ TB, w.before args s = true)
    (hM : Met l y (Cond.code y bytes maxL ret :: TB) rm Pc (QW dC dI v ws' A1) 0 0 A1) (h1 : Cond.methodLink own index y ∈ TB) (h2 : Cond.static y ∈ TB) (h3 : Cond.initialized y.cls ∈ TB) (h4 : Cond.code y bytes maxL ret ∈ TB)
    (n : Nat) (hd : y.cls ≠ "java/lang/invoke/MethodHandle" ∧ y.cls ≠ "java/lang/invoke/VarHandle" ∧ (parseMethodDescriptor y.desc).map (fun d => d.parameters.length) = some n)
    (hrc : rm.cells = 0) (hrs : rm.slots = 0) (hR : rm.frames + 1 ≤ R.frames ∧ 8 + (maxL + 11) + rm.locals ≤ R.locals) (hf : cells ≤ R.cells ∧ slots ≤ R.slots)
    (As : List Value) (hp : PreS s H Pc As) (hn : As.length = n) (hsize : ls.size = nL) (hst : st0 = As.reverse ++ rest) (hW : (rest.map fun v => v.category).sum ≤ 8) (hdg : decode cc pc = .ok (.invokestatic index, 3)) (hS : va_S A0 H0 H locs) (hA : ∀ q, A1 q → A0 q)
    (kk : ∀ (H1 : Heap) (locs1 : List Loc), va_P (dC, dI) vwCl ws' H1 → H.size ≤ H1.size → (∀ q : Nat, q < H.size → ¬ A1 q → H1[q]? = H[q]?) → va_S A0 H0 H1 locs1 → W p l e R s m args below meth c H1 locs1 cells slots Q (F0 m (pc + 3) ls (v.toList ++ rest))) : W p l e R s m args below meth c H locs cells slots Q (F0 m pc ls st0) :=
  wc_run (va_runS (nL := nL) (As := As) (rest := rest) (Ts := TB) ⟨hx, hb, hml, hown, htb⟩ hM (va_cwS n htb (gd_S2 h1 h2 h3 h4) rfl hrc hrs hd hR) hp rfl hn hsize hst (by show 2 * 0 + _ ≤ 8; omega) hdg ⟨hf.1, hf.2⟩) hS hA kk
theorem wcV {b : Nat} (hx : p.tables.exec = Jvm.exec) (hb : c.code = cc) (hml : c.maxLocals = nL) (hown : s.vm.findClass own = some m.cls) (htb : ∀ w ∈ TB, w.before args s = true)
    (hM : Met l y (Cond.code y bytes maxL ret :: TB) rm Pc (QW dC dI v ws' A1) 0 0 A1) (h1 : Cond.methodLink own index y ∈ TB) (h2 : Cond.instanceMethod y ∈ TB) (h5 : Cond.selects y.cls y y ∈ TB) (h3 : Cond.initialized y.cls ∈ TB) (h4 : Cond.code y bytes maxL ret ∈ TB)
    (n : Nat) (hd : y.cls ≠ "java/lang/invoke/MethodHandle" ∧ y.cls ≠ "java/lang/invoke/VarHandle" ∧ (parseMethodDescriptor y.desc).map (fun d => d.parameters.length) = some n)
    (hrc : rm.cells = 0) (hrs : rm.slots = 0) (hR : rm.frames + 1 ≤ R.frames ∧ 8 + (maxL + 11) + rm.locals ≤ R.locals) (hf : cells ≤ R.cells ∧ slots ≤ R.slots)
    (As : List Value) (hp : PreV s H y.cls b Pc As) (hn : As.length = n) (hsize : ls.size = nL) (hst : st0 = As.reverse ++ .ref b :: rest) (hW : (rest.map fun v => v.category).sum ≤ 8) (hdg : decode cc pc = .ok (.invokevirtual index, 3)) (hS : va_S A0 H0 H locs) (hA : ∀ q, A1 q → A0 q)
    (kk : ∀ (H1 : Heap) (locs1 : List Loc), va_P (dC, dI) vwCl ws' H1 → H.size ≤ H1.size → (∀ q : Nat, q < H.size → ¬ A1 q → H1[q]? = H[q]?) → va_S A0 H0 H1 locs1 → W p l e R s m args below meth c H1 locs1 cells slots Q (F0 m (pc + 3) ls (v.toList ++ rest))) : W p l e R s m args below meth c H locs cells slots Q (F0 m pc ls st0) :=
  wc_run (va_runV (nL := nL) (C := y.cls) (As := As) (rest := rest) (Ts := TB) ⟨hx, hb, hml, hown, htb⟩ hM (cwV n htb (gd_V h1 h2 h5 h3 h4) rfl hrc hrs ⟨rfl, hd⟩ hR) hp rfl hn hsize hst (by show 2 * 0 + _ ≤ 8; omega) hdg ⟨hf.1, hf.2⟩) hS hA kk
end WC
/-! what the writing methods of Stops do -/
def rcf (ft : Nat → Int) (sc pu : Nat → Bool) (k : Nat) : Nat → Int := fun j => if j < k then (if sc j = true then (if pu j = true then 3 else 0) else ft j) else ft j
theorem rcf_0 (ft : Nat → Int) (sc pu : Nat → Bool) : ft = rcf ft sc pu 0 := by funext j; unfold rcf; simp
theorem rcf_no {ft : Nat → Int} {sc pu : Nat → Bool} {k : Nat} (h : sc k = false) : rcf ft sc pu k = rcf ft sc pu (k + 1) := by
  funext j
  unfold rcf
  by_cases e : j = k
  · subst e; simp [h]
  · by_cases e2 : j < k
    · simp [e2, show j < k + 1 by omega]
    · simp [e2, show ¬ j < k + 1 by omega]
theorem rcf_3 {ft : Nat → Int} {sc pu : Nat → Bool} {k : Nat} (h : sc k = true) (h2 : pu k = true) : va_up (rcf ft sc pu k) k 3 = rcf ft sc pu (k + 1) := by
  funext j
  unfold rcf va_up
  by_cases e : j = k
  · subst e; simp [h, h2]
  · by_cases e2 : j < k
    · simp [e, e2, show j < k + 1 by omega]
    · simp [e, e2, show ¬ j < k + 1 by omega]
theorem rcf_z {ft : Nat → Int} {sc pu : Nat → Bool} {k : Nat} (h : sc k = true) (h2 : pu k = false) : va_up (rcf ft sc pu k) k 0 = rcf ft sc pu (k + 1) := by
  funext j
  unfold rcf va_up
  by_cases e : j = k
  · subst e; simp [h, h2]
  · by_cases e2 : j < k
    · simp [e, e2, show j < k + 1 by omega]
    · simp [e, e2, show ¬ j < k + 1 by omega]
def pff (ft : Nat → Int) (t : Int) (k : Nat) : Nat → Int := fun j => if j < k then (if t < ft j then ft j - t else 0) else ft j
def pfm (ft fc : Nat → Int) (t : Int) (j : Nat) : Bool := decide (0 < ft j) && decide (ft j ≤ t) && decide (fc j = 0)
def pfk (kn : Nat → Bool) (ft fc : Nat → Int) (t : Int) (k : Nat) : Nat → Bool := fun j => if j < k then (if pfm ft fc t j = true then !kn j else kn j) else kn j
theorem bL_flip {kn : Nat → Bool} {n : Nat} : bL (fun j => kn j ^^ (fun j => decide (n ≤ j) && (fun j => decide (j = 0)) (j - n)) j) = bL (va_up kn n (!kn n)) := bL_ext (fun j _ => by
  unfold va_up
  by_cases h : j = n
  · subst h; simp
  · by_cases h2 : n ≤ j
    · simp [h, show ¬ j - n = 0 by omega]
    · simp [h, h2])
theorem pff_0 (ft : Nat → Int) (t : Int) : ft = pff ft t 0 := by funext j; unfold pff; simp
theorem pfk_0 (kn : Nat → Bool) (ft fc : Nat → Int) (t : Int) : kn = pfk kn ft fc t 0 := by funext j; unfold pfk; simp
theorem pff_at (ft : Nat → Int) (t : Int) (k : Nat) : pff ft t k k = ft k := by unfold pff; simp
theorem pfk_at (kn : Nat → Bool) (ft fc : Nat → Int) (t : Int) (k : Nat) : pfk kn ft fc t k k = kn k := by unfold pfk; simp
theorem pff_a {ft : Nat → Int} {t : Int} {k : Nat} (h : t < ft k) : va_up (pff ft t k) k (pff ft t k k - t) = pff ft t (k + 1) := by
  funext j
  rw [pff_at]
  unfold pff va_up
  by_cases e : j = k
  · subst e; simp [h]
  · by_cases e2 : j < k
    · simp [e, e2, show j < k + 1 by omega]
    · simp [e, e2, show ¬ j < k + 1 by omega]
theorem pff_b {ft : Nat → Int} {t : Int} {k : Nat} (h : ¬ t < ft k) : va_up (pff ft t k) k 0 = pff ft t (k + 1) := by
  funext j
  unfold pff va_up
  by_cases e : j = k
  · subst e; simp [h]
  · by_cases e2 : j < k
    · simp [e, e2, show j < k + 1 by omega]
    · simp [e, e2, show ¬ j < k + 1 by omega]
theorem pff_c {ft : Nat → Int} {t : Int} {k : Nat} (h : ¬ t < ft k) (h2 : ft k = 0) : pff ft t k = pff ft t (k + 1) := by
  funext j
  unfold pff
  by_cases e : j = k
  · subst e; simp [h]; omega
  · by_cases e2 : j < k
    · simp [e2, show j < k + 1 by omega]
    · simp [e2, show ¬ j < k + 1 by omega]
theorem pfk_n {kn : Nat → Bool} {ft fc : Nat → Int} {t : Int} {k : Nat} (h : pfm ft fc t k = false) : pfk kn ft fc t k = pfk kn ft fc t (k + 1) := by
  funext j
  unfold pfk
  by_cases e : j = k
  · subst e; simp [h]
  · by_cases e2 : j < k
    · simp [e2, show j < k + 1 by omega]
    · simp [e2, show ¬ j < k + 1 by omega]
theorem pfk_y {kn : Nat → Bool} {ft fc : Nat → Int} {t : Int} {k : Nat} (h : pfm ft fc t k = true) : va_up (pfk kn ft fc t k) k (!pfk kn ft fc t k k) = pfk kn ft fc t (k + 1) := by
  funext j
  rw [pfk_at]
  unfold pfk va_up
  by_cases e : j = k
  · subst e; simp [h]
  · by_cases e2 : j < k
    · simp [e, e2, show j < k + 1 by omega]
    · simp [e, e2, show ¬ j < k + 1 by omega]
