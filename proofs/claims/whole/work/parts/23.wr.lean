/-! methods that write in their own cells and make none -/
def PS (dC : Nat → ClassId) (dI : Nat → Nat → Nat) (ws : va_W) (tys : List (ClassId × FieldType)) (sz : Nat) : State → Prop := fun U => U.heap.size = sz ∧ va_P (dC, dI) vwCl ws U.heap ∧ va_K (dC, dI) vwCl tys U ∧ va_D (fun _ => True) ws ∧ NB U
def QW (dC : Nat → ClassId) (dI : Nat → Nat → Nat) (v : Option Value) (ws' : va_W) (A : Nat → Prop) : Array Value → State → Outcome → State → Prop := fun _ st oc t => oc = .returned v ∧ va_P (dC, dI) vwCl ws' t.heap ∧ va_F A st t
section WR
variable {dC : Nat → ClassId} {dI : Nat → Nat → Nat} {ws w0 : va_W} {tys : List (ClassId × FieldType)} {s : State} {H : Heap} {A0 : Nat → Prop}
theorem PS_b (av : List Value) (sz : Nat) : FrameBlind (va_Pc av (PS dC dI ws tys sz)) := fun a U g mk q => ⟨q.1, q.2.1, q.2.2.1, va_K.moved (u := U) (U := U.calling g mk a) (Vm.Alike.refl U.vm) q.2.2.2.1, q.2.2.2.2.1, NB.blind q.2.2.2.2.2⟩
theorem PS_S {av : List Value} (hP : va_P (dC, dI) vwCl ws H) (hK : va_K (dC, dI) vwCl tys s) (hD : va_D A0 ws) (hN : NB s) : PreS s H (va_Pc av (PS dC dI ws tys H.size)) av :=
  ⟨PS_b av _, fun U hU hW => ⟨rfl, by rw [hU], by rw [hU]; exact hP, va_K.moved hW.alike hK, hD.weaken (fun _ _ _ _ => trivial), hN.warm hW⟩⟩
theorem PS_V {av : List Value} {b q0 ci : Nat} {C : String} {T : u_T} {N : Nat} {fs : List Value} (hP0 : va_P (dC, dI) vwCl w0 H) (hP : va_P (dC, dI) vwCl ws H) (hK : va_K (dC, dI) vwCl tys s) (hD : va_D A0 ws) (hN : NB s) (he : w0[q0]? = some (b, .inr (ci, fs))) (hc : vwCl[ci]? = some (C, T, N)) : PreV s H C b (va_Pc (.ref b :: av) (PS dC dI ws tys H.size)) av :=
  ⟨PS_b _ _, va_recv hK hP0 hc he, fun U hU hW => ⟨rfl, by rw [hU], by rw [hU]; exact hP, va_K.moved hW.alike hK, hD.weaken (fun _ _ _ _ => trivial), hN.warm hW⟩⟩
theorem P_eq {w1 w2 : va_W} {H : Heap} (h : va_P (dC, dI) vwCl w1 H) (e : w1 = w2) : va_P (dC, dI) vwCl w2 H := e ▸ h
theorem D_same {A : Nat → Prop} {w1 w2 : va_W} (h : w1.map (fun q => q.1) = w2.map (fun q => q.1)) (hD : va_D A w1) : va_D A w2 := by
  have key : ∀ (k : Nat) (q : Nat × va_E), w2[k]? = some q → ∃ q', w1[k]? = some q' ∧ q'.1 = q.1 := fun k q hk => by
    have h1 : (w2.map (fun q => q.1))[k]? = some q.1 := by rw [List.getElem?_map, hk]; rfl
    rw [← h, List.getElem?_map] at h1
    cases h2 : w1[k]? with
    | none => rw [h2] at h1; cases h1
    | some q' =>
      rw [h2] at h1
      exact ⟨q', rfl, Option.some.inj h1⟩
  refine ⟨fun i j x y hx hy he => ?_, fun k q hk => ?_⟩
  · obtain ⟨x', hx', ex⟩ := key i x hx
    obtain ⟨y', hy', ey⟩ := key j y hy
    exact hD.1 i j x' y' hx' hy' (by rw [ex, ey, he])
  · obtain ⟨q', hq', e⟩ := key k q hk
    rw [← e]
    exact hD.2 k q' hq'
/-- behind a call that wrote in the cells wc: the whole world, in its old order -/
theorem wc_join {ws wc wr w1 w2 : va_W} {H H1 : Heap} (hP : va_P (dC, dI) vwCl ws H) (hD : va_D A0 ws) (isC isR pm : List Nat) (hC : isC.map (fun i => ws[i]?) = wc.map some) (hR : isR.map (fun i => ws[i]?) = wr.map some) (hn : va_nd isR = true) (hnc : va_nd isC = true) (hdis : ∀ i ∈ isR, i ∉ isC)
    (ha : wc.map (fun q => q.1) = w1.map (fun q => q.1)) (hk : ∀ q : Nat, q < H.size → ¬ va_A wc H.size q → H1[q]? = H[q]?) (hF : ∀ q, va_A wc H.size q → A0 q) (hP1 : va_P (dC, dI) vwCl w1 H1) (hs : pm.filterMap (fun i => (wr ++ w1)[i]?) = w2) (hs2 : pm.map (fun i => (wr ++ w1)[i]?) = w2.map some) (hnp : va_nd pm = true) :
    va_P (dC, dI) vwCl w2 H1 ∧ va_D A0 w2 := by
  have hDc : va_D A0 wc := hD.sub isC hnc hC
  obtain ⟨hP9, hD9⟩ := va_join (wr := wr) (w1 := w1) hP hD isC isR hC hR hn hdis hk hF hP1 (D_same ha (hDc.self (sz := H.size)))
  exact ⟨hP9.sub pm hs, hD9.sub pm hnp hs2⟩
end WR
section WC
variable {p : Program} {l : Launch} {e : Env} {R : Room} {s : State} {m : MethodId} {args : Array Value} {below : List Frame} {meth : Method} {c : Code} {H : Heap} {locs : List Loc} {cells slots : Nat} {Q : State → Prop}
variable {cc : ByteArray} {pc : Nat} {ls : Array Slot} {rest st0 : List Value} {nL : Nat} {own : String} {index : Nat} {y : MethodName} {bytes : ByteArray} {maxL : Nat} {ret : Option FieldType} {rm : Room} {Pc : Array Value → State → Prop} {v : Option Value} {dC : Nat → ClassId} {dI : Nat → Nat → Nat} {ws' : va_W} {A0 A1 : Nat → Prop} {H0 : Heap}
theorem wc_run {a : Array Value} (hr : va_Run p l e R s m args below meth c H locs cells slots 0 0 (F0 m pc ls st0) rest (QW dC dI v ws' A1 a) A1) (hS : va_S A0 H0 H locs) (hA : ∀ q, A1 q → A0 q)
    (kk : ∀ (H1 : Heap) (locs1 : List Loc), va_P (dC, dI) vwCl ws' H1 → H.size ≤ H1.size → (∀ q : Nat, q < H.size → ¬ A1 q → H1[q]? = H[q]?) → va_S A0 H0 H1 locs1 → W p l e R s m args below meth c H1 locs1 cells slots Q (F0 m (pc + 3) ls (v.toList ++ rest))) : W p l e R s m args below meth c H locs cells slots Q (F0 m pc ls st0) := by
  intro T hT X
  obtain ⟨v', st₀, t, T', L, h0, X', hL, e1, e2, ⟨hv, hP, hz, hk⟩, st⟩ := hr T hT X
  cases hv
  rw [h0] at hz hk
  obtain ⟨t2, a1, b1⟩ := kk T'.heap (locs ++ L) (by rw [e1]; exact hP) (by rw [e1]; exact hz) (fun q h1 h2 => by rw [e1]; exact hk q h1 h2)
    ⟨Nat.le_trans hS.1 (by rw [e1]; exact hz), fun q h1 h2 => by rw [e1, hk q (Nat.lt_of_lt_of_le h1 hS.1) (fun z => h2 (hA q z))]; exact hS.2.1 q h1 h2, fun q hq => by
      rcases List.mem_append.mp hq with h | h
      · exact hS.2.2 q h
      · exact hA _ (hL q h)⟩ T' rfl X'
  exact ⟨t2, st t2 a1, b1⟩
theorem wcS (hx : p.tables.exec = Jvm.exec) (hb : c.code = cc) (hml : c.maxLocals = nL) (hown : s.vm.findClass own = some m.cls) (htb : ∀ w ∈ TB, w.before args s = true)
    (hM : Met l y (Cond.code y bytes maxL ret :: TB) rm Pc (QW dC dI v ws' A1) 0 0 A1) (h1 : Cond.methodLink own index y ∈ TB) (h2 : Cond.static y ∈ TB) (h3 : Cond.initialized y.cls ∈ TB) (h4 : Cond.code y bytes maxL ret ∈ TB)
    (n : Nat) (hd : y.cls ≠ "java/lang/invoke/MethodHandle" ∧ y.cls ≠ "java/lang/invoke/VarHandle" ∧ (parseMethodDescriptor y.desc).map (fun d => d.parameters.length) = some n)
    (hrc : rm.cells = 0) (hrs : rm.slots = 0) (hR : rm.frames + 1 ≤ R.frames ∧ 8 + (maxL + 11) + rm.locals ≤ R.locals) (hf : cells ≤ R.cells ∧ slots ≤ R.slots)
    (As : List Value) (hp : PreS s H Pc As) (hn : As.length = n) (hsize : ls.size = nL) (hst : st0 = As.reverse ++ rest) (hW : (rest.map fun v => v.category).sum ≤ 8) (hdg : decode cc pc = .ok (.invokestatic index, 3)) (hS : va_S A0 H0 H locs) (hA : ∀ q, A1 q → A0 q)
    (kk : ∀ (H1 : Heap) (locs1 : List Loc), va_P (dC, dI) vwCl ws' H1 → H.size ≤ H1.size → (∀ q : Nat, q < H.size → ¬ A1 q → H1[q]? = H[q]?) → va_S A0 H0 H1 locs1 → W p l e R s m args below meth c H1 locs1 cells slots Q (F0 m (pc + 3) ls (v.toList ++ rest))) : W p l e R s m args below meth c H locs cells slots Q (F0 m pc ls st0) :=
  wc_run (va_runS (nL := nL) (As := As) (rest := rest) (Ts := TB) ⟨hx, hb, hml, hown, htb⟩ hM (va_cwS n htb (gd_S2 h1 h2 h3 h4) rfl hrc hrs hd hR) hp rfl hn hsize hst (by show 2 * 0 + _ ≤ 8; omega) hdg ⟨hf.1, hf.2⟩) hS hA kk
theorem wcV {b : Nat} (hx : p.tables.exec = Jvm.exec) (hb : c.code = cc) (hml : c.maxLocals = nL) (hown : s.vm.findClass own = some m.cls) (htb : ∀ w ∈ TB, w.before args s = true)
    (hM : Met l y (Cond.code y bytes maxL ret :: TB) rm Pc (QW dC dI v ws' A1) 0 0 A1) (h1 : Cond.methodLink own index y ∈ TB) (h2 : Cond.instanceMethod y ∈ TB) (h5 : Cond.selects y.cls y y ∈ TB) (h3 : Cond.initialized y.cls ∈ TB) (h4 : Cond.code y bytes maxL ret ∈ TB)
    (n : Nat) (hd : y.cls ≠ "java/lang/invoke/MethodHandle" ∧ y.cls ≠ "java/lang/invoke/VarHandle" ∧ (parseMethodDescriptor y.desc).map (fun d => d.parameters.length) = some n)
    (hrc : rm.cells = 0) (hrs : rm.slots = 0) (hR : rm.frames + 1 ≤ R.frames ∧ 8 + (maxL + 11) + rm.locals ≤ R.locals) (hf : cells ≤ R.cells ∧ slots ≤ R.slots)
    (As : List Value) (hp : PreV s H y.cls b Pc As) (hn : As.length = n) (hsize : ls.size = nL) (hst : st0 = As.reverse ++ .ref b :: rest) (hW : (rest.map fun v => v.category).sum ≤ 8) (hdg : decode cc pc = .ok (.invokevirtual index, 3)) (hS : va_S A0 H0 H locs) (hA : ∀ q, A1 q → A0 q)
    (kk : ∀ (H1 : Heap) (locs1 : List Loc), va_P (dC, dI) vwCl ws' H1 → H.size ≤ H1.size → (∀ q : Nat, q < H.size → ¬ A1 q → H1[q]? = H[q]?) → va_S A0 H0 H1 locs1 → W p l e R s m args below meth c H1 locs1 cells slots Q (F0 m (pc + 3) ls (v.toList ++ rest))) : W p l e R s m args below meth c H locs cells slots Q (F0 m pc ls st0) :=
  wc_run (va_runV (nL := nL) (C := y.cls) (As := As) (rest := rest) (Ts := TB) ⟨hx, hb, hml, hown, htb⟩ hM (cwV n htb (gd_V h1 h2 h5 h3 h4) rfl hrc hrs ⟨rfl, hd⟩ hR) hp rfl hn hsize hst (by show 2 * 0 + _ ≤ 8; omega) hdg ⟨hf.1, hf.2⟩) hS hA kk
end WC
/-! what the writing methods of Stops do -/
def rcf (ft : Nat → Int) (sc pu : Nat → Bool) (k : Nat) : Nat → Int := fun j => if j < k then (if sc j = true then (if pu j = true then 3 else 0) else ft j) else ft j
theorem rcf_0 (ft : Nat → Int) (sc pu : Nat → Bool) : ft = rcf ft sc pu 0 := by funext j; unfold rcf; simp
theorem rcf_no {ft : Nat → Int} {sc pu : Nat → Bool} {k : Nat} (h : sc k = false) : rcf ft sc pu k = rcf ft sc pu (k + 1) := by
  funext j
  unfold rcf
  by_cases e : j = k
  · subst e; simp [h]
  · by_cases e2 : j < k
    · simp [e2, show j < k + 1 by omega]
    · simp [e2, show ¬ j < k + 1 by omega]
theorem rcf_3 {ft : Nat → Int} {sc pu : Nat → Bool} {k : Nat} (h : sc k = true) (h2 : pu k = true) : va_up (rcf ft sc pu k) k 3 = rcf ft sc pu (k + 1) := by
  funext j
  unfold rcf va_up
  by_cases e : j = k
  · subst e; simp [h, h2]
  · by_cases e2 : j < k
    · simp [e, e2, show j < k + 1 by omega]
    · simp [e, e2, show ¬ j < k + 1 by omega]
theorem rcf_z {ft : Nat → Int} {sc pu : Nat → Bool} {k : Nat} (h : sc k = true) (h2 : pu k = false) : va_up (rcf ft sc pu k) k 0 = rcf ft sc pu (k + 1) := by
  funext j
  unfold rcf va_up
  by_cases e : j = k
  · subst e; simp [h, h2]
  · by_cases e2 : j < k
    · simp [e, e2, show j < k + 1 by omega]
    · simp [e, e2, show ¬ j < k + 1 by omega]
def pff (ft : Nat → Int) (t : Int) (k : Nat) : Nat → Int := fun j => if j < k then (if t < ft j then ft j - t else 0) else ft j
def pfm (ft fc : Nat → Int) (t : Int) (j : Nat) : Bool := decide (0 < ft j) && decide (ft j ≤ t) && decide (fc j = 0)
def pfk (kn : Nat → Bool) (ft fc : Nat → Int) (t : Int) (k : Nat) : Nat → Bool := fun j => if j < k then (if pfm ft fc t j = true then !kn j else kn j) else kn j
theorem bL_flip {kn : Nat → Bool} {n : Nat} : bL (fun j => kn j ^^ (fun j => decide (n ≤ j) && (fun j => decide (j = 0)) (j - n)) j) = bL (va_up kn n (!kn n)) := bL_ext (fun j _ => by
  unfold va_up
  by_cases h : j = n
  · subst h; simp
  · by_cases h2 : n ≤ j
    · simp [h, show ¬ j - n = 0 by omega]
    · simp [h, h2])
theorem pff_0 (ft : Nat → Int) (t : Int) : ft = pff ft t 0 := by funext j; unfold pff; simp
theorem pfk_0 (kn : Nat → Bool) (ft fc : Nat → Int) (t : Int) : kn = pfk kn ft fc t 0 := by funext j; unfold pfk; simp
theorem pff_at (ft : Nat → Int) (t : Int) (k : Nat) : pff ft t k k = ft k := by unfold pff; simp
theorem pfk_at (kn : Nat → Bool) (ft fc : Nat → Int) (t : Int) (k : Nat) : pfk kn ft fc t k k = kn k := by unfold pfk; simp
theorem pff_a {ft : Nat → Int} {t : Int} {k : Nat} (h : t < ft k) : va_up (pff ft t k) k (pff ft t k k - t) = pff ft t (k + 1) := by
  funext j
  rw [pff_at]
  unfold pff va_up
  by_cases e : j = k
  · subst e; simp [h]
  · by_cases e2 : j < k
    · simp [e, e2, show j < k + 1 by omega]
    · simp [e, e2, show ¬ j < k + 1 by omega]
theorem pff_b {ft : Nat → Int} {t : Int} {k : Nat} (h : ¬ t < ft k) : va_up (pff ft t k) k 0 = pff ft t (k + 1) := by
  funext j
  unfold pff va_up
  by_cases e : j = k
  · subst e; simp [h]
  · by_cases e2 : j < k
    · simp [e, e2, show j < k + 1 by omega]
    · simp [e, e2, show ¬ j < k + 1 by omega]
theorem pff_c {ft : Nat → Int} {t : Int} {k : Nat} (h : ¬ t < ft k) (h2 : ft k = 0) : pff ft t k = pff ft t (k + 1) := by
  funext j
  unfold pff
  by_cases e : j = k
  · subst e; simp [h]; omega
  · by_cases e2 : j < k
    · simp [e2, show j < k + 1 by omega]
    · simp [e2, show ¬ j < k + 1 by omega]
theorem pfk_n {kn : Nat → Bool} {ft fc : Nat → Int} {t : Int} {k : Nat} (h : pfm ft fc t k = false) : pfk kn ft fc t k = pfk kn ft fc t (k + 1) := by
  funext j
  unfold pfk
  by_cases e : j = k
  · subst e; simp [h]
  · by_cases e2 : j < k
    · simp [e2, show j < k + 1 by omega]
    · simp [e2, show ¬ j < k + 1 by omega]
theorem pfk_y {kn : Nat → Bool} {ft fc : Nat → Int} {t : Int} {k : Nat} (h : pfm ft fc t k = true) : va_up (pfk kn ft fc t k) k (!pfk kn ft fc t k k) = pfk kn ft fc t (k + 1) := by
  funext j
  rw [pfk_at]
  unfold pfk va_up
  by_cases e : j = k
  · subst e; simp [h]
  · by_cases e2 : j < k
    · simp [e, e2, show j < k + 1 by omega]
    · simp [e, e2, show ¬ j < k + 1 by omega]

def tnk (kn : Nat → Bool) (fc : Nat → Int) (k : Nat) : Nat → Bool := if fc k = 0 then va_up kn k (!kn k) else kn
def tni (fc : Nat → Int) (k : Nat) : Int := if fc k = 0 then 1 else 0
theorem tnk_y {kn : Nat → Bool} {fc : Nat → Int} {k : Nat} (h : fc k = 0) : tnk kn fc k = va_up kn k (!kn k) := by unfold tnk; rw [if_pos h]
theorem tnk_n {kn : Nat → Bool} {fc : Nat → Int} {k : Nat} (h : ¬ fc k = 0) : tnk kn fc k = kn := by unfold tnk; rw [if_neg h]
theorem tni_y {fc : Nat → Int} {k : Nat} (h : fc k = 0) : tni fc k = 1 := by unfold tni; rw [if_pos h]
theorem tni_n {fc : Nat → Int} {k : Nat} (h : ¬ fc k = 0) : tni fc k = 0 := by unfold tni; rw [if_neg h]
theorem pfm_f {ft fc : Nat → Int} {t : Int} {k : Nat} (h : t < ft k ∨ ¬ 0 < ft k ∨ ¬ fc k = 0) : pfm ft fc t k = false := by
  unfold pfm
  rcases h with h | h | h
  · rw [decide_eq_false (show ¬ ft k ≤ t by omega)]; simp
  · rw [decide_eq_false h]; simp
  · rw [decide_eq_false h]; simp
theorem pfm_t {ft fc : Nat → Int} {t : Int} {k : Nat} (h : ft k ≤ t) (h2 : 0 < ft k) (h3 : fc k = 0) : pfm ft fc t k = true := by
  unfold pfm
  rw [decide_eq_true h, decide_eq_true h2, decide_eq_true h3]
  rfl
theorem pfk_turn {kn : Nat → Bool} {ft fc : Nat → Int} {t : Int} {k : Nat} (h : ft k ≤ t) (h2 : 0 < ft k) : tnk (pfk kn ft fc t k) fc k = pfk kn ft fc t (k + 1) := by
  by_cases h3 : fc k = 0
  · rw [tnk_y h3, pfk_y (pfm_t h h2 h3)]
  · rw [tnk_n h3, pfk_n (pfm_f (Or.inr (Or.inr h3)))]
theorem pfc_turn {ft fc : Nat → Int} {t : Int} {k : Nat} (h : ft k ≤ t) (h2 : 0 < ft k) : ((cnt (pfm ft fc t) k : Nat) : Int) + tni fc k = ((cnt (pfm ft fc t) (k + 1) : Nat) : Int) := by
  by_cases h3 : fc k = 0
  · rw [tni_y h3, cnt_t (pfm_t h h2 h3)]; omega
  · rw [tni_n h3, cnt_f (pfm_f (Or.inr (Or.inr h3)))]; omega
theorem tni_in (fc : Nat → Int) (k : Nat) : 0 ≤ tni fc k ∧ tni fc k ≤ 1 := by
  by_cases h3 : fc k = 0
  · rw [tni_y h3]; omega
  · rw [tni_n h3]; omega
/-- the first k places filled with v -/
def flf {α : Type} (f : Nat → α) (v : α) (k : Nat) : Nat → α := fun j => if j < k then v else f j
theorem flf_0 {α : Type} (f : Nat → α) (v : α) : f = flf f v 0 := by funext j; unfold flf; simp
theorem flf_s {α : Type} (f : Nat → α) (v : α) (k : Nat) : va_up (flf f v k) k v = flf f v (k + 1) := by
  funext j
  unfold flf va_up
  by_cases e : j = k
  · subst e; simp
  · by_cases e2 : j < k
    · simp [e, e2, show j < k + 1 by omega]
    · simp [e, e2, show ¬ j < k + 1 by omega]
theorem aB_cpy (f g : Nat → Nat → Bool) (a b n : Nat) : va_cpy (aB f) (aB g) a b n = aB (va_cpy f g a b n) := by
  funext j
  unfold va_cpy aB
  by_cases h : b ≤ j ∧ j < b + n
  · simp only [if_pos h]
  · simp only [if_neg h]
theorem nneg {k : Nat} (h : k < 2 ^ 31) : ¬ nI k < 0 := by
  rw [Int32.lt_iff_toInt_lt, nI_toInt h]
  show ¬ (k : Int) < (0 : Int32).toInt
  have : (0 : Int32).toInt = 0 := by decide
  omega
section XCP
variable {p : Program} {l : Launch} {e : Env} {R : Room} {s : State} {m : MethodId} {args : Array Value} {below : List Frame} {meth : Method} {c : Code} {H : Heap} {locs : List Loc} {cells slots : Nat} {Q : State → Prop}
variable {cc : ByteArray} {pc : Nat} {ls : Array Slot} {rest : List Value} {D : va_G} {cl : List vw_C} {A : Nat → Prop} {a : Nat} {tys : List (ClassId × FieldType)} {ws : va_W} {H0 : Heap}
theorem xa_bcpy {f g : Nat → Nat → Bool} (hexec : p.tables.exec = Jvm.exec) (hb : c.code = cc) (hml : c.maxLocals = ls.size) {own : String} {index : Nat} (hown : s.vm.findClass own = some m.cls) (hlink : (Cond.methodLink own index arraycopyName).before args s = true) (hnat : (Cond.native arraycopyName).before args s = true) (hstat : (Cond.static arraycopyName).before args s = true) (hini : (Cond.initialized "java/lang/System").before args s = true)
    (hK : va_K D cl tys s) (hP : va_P D cl ws H) (hD : va_D A ws) (hS : va_S A H0 H locs) (q0 q1 t0 t1 : Nat) {a0 : Nat} {c0 c1 : ClassId} {n0 n1 : Nat} (ha0 : ws[q0]? = some (a0, .inl (c0, n0, .inr (.inl (aB f))))) (ha1 : ws[q1]? = some (a, .inl (c1, n1, .inr (.inl (aB g))))) (ht0 : tys[t0]? = some (c0, .long)) (ht1 : tys[t1]? = some (c1, .long)) (hnn : n0 < 2 ^ 31 ∧ n1 < 2 ^ 31)
    (ks kd kn : Nat) {sp dp n : Int} (h1 : sp = (ks : Int)) (h2 : dp = (kd : Int)) (h3 : n = (kn : Int)) (h4 : ks + kn ≤ n0) (h5 : kd + kn ≤ n1) (h6 : ks < 2 ^ 31) (h7 : kd < 2 ^ 31)
    (hframes : 1 ≤ R.frames) (hlocals : (rest.map fun v => v.category).sum + (nativeFrameWords "java/lang/System" "arraycopy" 5 + 11) ≤ R.locals) (hdg : decode cc pc = .ok (.invokestatic index, 3))
    (kk : ∀ (H1 : Heap) (locs1 : List Loc), va_P D cl (ws.set q1 (a, .inl (c1, n1, .inr (.inl (aB (va_cpy f g ks kd kn)))))) H1 → va_D A (ws.set q1 (a, .inl (c1, n1, .inr (.inl (aB (va_cpy f g ks kd kn)))))) → va_S A H0 H1 locs1 → W p l e R s m args below meth c H1 locs1 cells slots Q (F0 m (pc + 3) ls rest)) : W p l e R s m args below meth c H locs cells slots Q (F0 m pc ls (.int (iI n) :: .int (iI dp) :: .ref a :: .int (iI sp) :: .ref a0 :: rest)) := by
  subst h1 h2 h3
  rw [iI_n, iI_n, iI_n]
  have e1 := nI_clamp (n := ks) h6
  have e2 := nI_clamp (n := kd) h7
  have e3 := nI_clamp (n := kn) (by omega)
  refine va_copyl hexec hb hml hown hlink hnat hstat hini hK hP hD hS q0 q1 t0 t1 ha0 ha1 ht0 ht1 (by decide) (nneg h6) (nneg h7) (nneg (by omega)) (by rw [e1, e3]; exact h4) (by rw [e2, e3]; exact h5) (fun i _ => rfl) hframes hlocals hdg ?_
  rw [e1, e2, e3, aB_cpy]
  exact kk
end XCP
