/-! the law: its own rows -/
section LX
variable {p : Program} {l : Launch} {e : Env} {R : Room} {s : State} {m : MethodId} {args : Array Value} {below : List Frame} {meth : Method} {c : Code} {H : Heap} {locs : List Loc} {cells slots : Nat} {Q : State → Prop}
variable {cc : ByteArray} {pc : Nat} {ls : Array Slot} {rest st0 : List Value} {nL : Nat} {own : String} {index : Nat} {y : MethodName} {bytes : ByteArray} {maxL : Nat} {ret : Option FieldType} {rm : Room} {Pc : Array Value → State → Prop} {v : Option Value} {dC : Nat → ClassId} {dI : Nat → Nat → Nat} {ws ws' : va_W} {A0 A1 : Nat → Prop} {H0 : Heap} {mc ms : Nat} {tys : List (ClassId × FieldType)}
theorem lx_run {a : Array Value} (hr : va_Run p l e R s m args below meth c H locs cells slots mc ms (F0 m pc ls st0) rest (QW dC dI v ws' A1 a) A1) (hS : va_S A0 H0 H locs) (hA : ∀ q, A1 q → A0 q)
    (kk : ∀ (H1 : Heap) (locs1 : List Loc), va_P (dC, dI) vwCl ws' H1 → H.size ≤ H1.size → (∀ q : Nat, q < H.size → ¬ A1 q → H1[q]? = H[q]?) → va_S A0 H0 H1 locs1 → W p l e R s m args below meth c H1 locs1 (cells + mc) (slots + ms) Q (F0 m (pc + 3) ls (v.toList ++ rest))) : W p l e R s m args below meth c H locs cells slots Q (F0 m pc ls st0) := by
  intro T hT X
  obtain ⟨v', st₀, t, T', L, h0, X', hL, e1, e2, ⟨hv, hP, hz, hk⟩, st⟩ := hr T hT X
  cases hv
  rw [h0] at hz hk
  obtain ⟨t2, a1, b1⟩ := kk T'.heap (locs ++ L) (by rw [e1]; exact hP) (by rw [e1]; exact hz) (fun q h1 h2 => by rw [e1]; exact hk q h1 h2)
    ⟨Nat.le_trans hS.1 (by rw [e1]; exact hz), fun q h1 h2 => by rw [e1, hk q (Nat.lt_of_lt_of_le h1 hS.1) (fun z => h2 (hA q z))]; exact hS.2.1 q h1 h2, fun q hq => by
      rcases List.mem_append.mp hq with h | h
      · exact hS.2.2 q h
      · exact hA _ (hL q h)⟩ T' rfl X'
  exact ⟨t2, st t2 a1, b1⟩
/-- a static method that has handlers -/
theorem lx_S {Qc : Array Value → State → Outcome → State → Prop} {free : Addr → Prop} {hh : List (Nat × Nat × Nat × Nat)} (hx : p.tables.exec = Jvm.exec) (hb : c.code = cc) (hml : c.maxLocals = nL) (hown : s.vm.findClass own = some m.cls) (htb : ∀ w ∈ TB, w.before args s = true)
    (hM : Met l y (Cond.codeWith y bytes maxL ret hh :: TB) rm Pc Qc mc ms free) (h1 : Cond.methodLink own index y ∈ TB) (h2 : Cond.static y ∈ TB) (h3 : Cond.initialized y.cls ∈ TB) (h4 : Cond.codeWith y bytes maxL ret hh ∈ TB)
    (n : Nat) (hd : y.cls ≠ "java/lang/invoke/MethodHandle" ∧ y.cls ≠ "java/lang/invoke/VarHandle" ∧ (parseMethodDescriptor y.desc).map (fun d => d.parameters.length) = some n)
    (hrc : rm.cells = mc) (hrs : rm.slots = ms) (hR : rm.frames + 1 ≤ R.frames ∧ 8 + (maxL + 11) + rm.locals ≤ R.locals) (hf : cells + mc ≤ R.cells ∧ slots + ms ≤ R.slots)
    (As : List Value) (hp : PreS s H Pc As) (hn : As.length = n) (hsize : ls.size = nL) (hst : st0 = As.reverse ++ rest) (hW : (rest.map fun v => v.category).sum ≤ 8) (hdg : decode cc pc = .ok (.invokestatic index, 3)) :
    va_Run p l e R s m args below meth c H locs cells slots mc ms (F0 m pc ls st0) rest (Qc As.toArray) free := by
  have hG : GoodIn TB (Cond.codeWith y bytes maxL ret hh :: TB) := tb_sub (tb_cons h4 tb_self)
  have hK : Back l R p e below s args y 3 8 (PreOf R mc ms Pc) (PostOf Qc mc ms free) := va_backW (hh := hh) (bytes := bytes) (maxL := maxL) (ret := ret) hM hp.1 hrc hrs hR.1 hR.2 (pay_in htb hG) List.mem_cons_self (fun a' U hW => word_at hW (Or.inl (by first | rfl | simp [Cond.onTables, Cond.keeps, Cond.steady])) (htb _ h3))
  intro T hT X
  obtain ⟨mk, methM, cM, hnamed, hmethM, -, -, -, -, -, -, hsigM⟩ := Cond.codeWith_spec (htb _ h4)
  have hstatic : methM.isStatic = true := Cond.static_spec hnamed hmethM (htb _ h2)
  obtain ⟨kP, hkP, -⟩ := className_of_methodNamed hnamed
  have hinitP : kP.init = .initialized := Cond.initialized_spec (findClass_of_methodNamed hnamed) hkP (htb _ h3)
  have hlen : n = methM.sig.parameters.length := by
    have h9 := hd.2.2
    rw [hsigM] at h9
    exact (Option.some.inj h9).symm
  obtain ⟨vm₁, X₁, hstep₁⟩ := X.invokestatic hx hown (htb _ h1) hnamed hmethM hstatic hkP hinitP ⟨hd.1, hd.2.1⟩ (g := F0 m pc ls st0) rfl (argsL := As) (rest := rest) (hn.trans hlen) hst (by rw [hb]; exact hdg)
  obtain ⟨v, ⟨U', l2, c2, s2⟩, X', ⟨g', mk', t, L, e1, e2, hq, h5, hL, h6, h7⟩, st⟩ := hK m meth c ⟨T.setVm vm₁, locs, cells, slots⟩ { F0 m pc ls st0 with stack := rest } _ mk As.toArray X₁ rfl (hsize.trans hml.symm) (by rw [hb]; exact hdg) (by show 2 * 0 + (rest.map fun v => v.category).sum ≤ 8; omega) (X₁.named hnamed) ⟨hf.1, hf.2, hp.2 (T.setVm vm₁) hT X₁.warmed⟩
  dsimp only [Pt.U, Pt.locs, Pt.cells, Pt.slots] at X' e1 e2 h5 h6 h7 st
  subst h5; subst h6; subst h7
  exact ⟨v, (T.setVm vm₁).calling g' mk' As.toArray, t, U', L, hT, X', hL, e1, e2, hq, fun target h => hstep₁ _ fun acts => by rw [doInvoke_state]; exact st.trans h⟩
theorem PL_S {av : List Value} (hP : va_P (dC, dI) vwCl ws H) (hK : va_K (dC, dI) vwCl tys s) (hD : va_D A0 ws) (hN : NB s) (hB : XB s) (hX : NX s) (hq : ∀ a : Nat, a < s.heap.size → H[a]? = s.heap[a]?) : PreS s H (va_Pc av (PL dC dI ws tys H.size)) av :=
  ⟨fun a U g mk q => ⟨q.1, q.2.1, q.2.2.1, va_K.moved (u := U) (U := U.calling g mk a) (Vm.Alike.refl U.vm) q.2.2.2.1, q.2.2.2.2.1, NB.blind q.2.2.2.2.2.1, XB.blind q.2.2.2.2.2.2.1, NX.moved (u := U) (U := U.calling g mk a) (Vm.Alike.refl U.vm) q.2.2.2.2.2.2.2⟩,
    fun U hU hW => ⟨rfl, by rw [hU], by rw [hU]; exact hP, va_K.moved hW.alike hK, hD.weaken (fun _ _ _ _ => trivial), hN.warm hW, hB.move hW (fun a ha => by rw [hU]; exact hq a ha), hX.moved hW.alike⟩⟩
/-- equal numbers, equal longs: the jump is taken -/
theorem lx_eq {x z : Int32} {off : Int} {tgt : Nat} (hx : p.tables.exec = Jvm.exec) (hb : c.code = cc) (hdg : decode cc pc = .ok (.if_icmp .eq off, 3)) (ht : (pc : Int) + off = (tgt : Int)) (h : x = z)
    (k : W p l e R s m args below meth c H locs cells slots Q (F0 m tgt ls rest)) : W p l e R s m args below meth c H locs cells slots Q (F0 m pc ls (.int z :: .int x :: rest)) :=
  lv_icmp_eq hx hb hdg ht (fun _ => k) (fun h9 => absurd h h9)
theorem lx_cmp {x z : Int64} {off : Int} {tgt : Nat} (hx : p.tables.exec = Jvm.exec) (hb : c.code = cc) (hdg : decode cc pc = .ok (.lcmp, 1)) (hdg2 : decode cc (pc + 1) = .ok (.ifCond .eq off, 3)) (ht : ((pc + 1 : Nat) : Int) + off = (tgt : Int)) (h : x = z)
    (k : W p l e R s m args below meth c H locs cells slots Q (F0 m tgt ls rest)) : W p l e R s m args below meth c H locs cells slots Q (F0 m pc ls (.long z :: .long x :: rest)) := by
  subst h
  refine W.lcmp hx hb hdg ?_
  have h0 : lg_cmp x x = 0 := by
    unfold lg_cmp
    rw [if_neg (show ¬ x > x by simp [Int64.lt_iff_toInt_lt]), if_pos rfl]
  rw [h0]
  exact lv_if_eq hx hb hdg2 ht (fun _ => k) (fun h9 => absurd rfl h9)
theorem lx_ne {a : Int} {off : Int} {tgt : Nat} (hx : p.tables.exec = Jvm.exec) (hb : c.code = cc) (h1 : 1 ≤ a) (h2 : a ≤ 3) (hdg : decode cc pc = .ok (.ifCond .ne off, 3)) (ht : (pc : Int) + off = (tgt : Int))
    (k : W p l e R s m args below meth c H locs cells slots Q (F0 m tgt ls rest)) : W p l e R s m args below meth c H locs cells slots Q (F0 m pc ls (.int (iI a) :: rest)) :=
  xi_if_ne hx hb ⟨by omega, by omega⟩ hdg ht (fun _ => k) (fun h => absurd h (by omega))
theorem lx_ld {b L : Nat} {xs : Nat → Int32} {A : Nat → Prop} {z a : Int} (j : Nat) (hx : p.tables.exec = Jvm.exec) (hb : c.code = cc) (hX : va_X b L xs s H0) (hbl : b < H0.size) (hbA : ¬ A b) (hS : va_S A H0 H locs) (hz : z = (j : Int)) (hj : j < L) (hL : L ≤ 2560) (ha : xs j = iI a) (hdg : decode cc pc = .ok (.iaload, 1))
    (kk : W p l e R s m args below meth c H locs cells slots Q (F0 m (pc + 1) ls (.int (iI a) :: rest))) : W p l e R s m args below meth c H locs cells slots Q (F0 m pc ls (.int (iI z) :: .ref b :: rest)) := by
  subst hz
  rw [iI_n]
  refine va_sld hx hb hX hbl hbA hS (vp_in_nI hj (by omega)) hdg ?_
  rw [nI_clamp (by omega), ha]
  exact kk
end LX
theorem sI_ex (x : Int32) : ∃ a : Int, x = iI a ∧ inI a := ⟨x.toInt, (iI_self x).symm, by
  have h1 := Int32.le_toInt x
  have h2 := Int32.toInt_lt x
  constructor <;> omega⟩
theorem kw_ok {dn : Nat → Bool} {fr tt sh : Nat → Int} {nc : Nat} (hnc : nc ≤ 16) (hcb : ∀ c, 0 ≤ fr c ∧ fr c < 5 ∧ 0 ≤ tt c ∧ tt c < 5 ∧ -24 ≤ sh c ∧ sh c ≤ 24) : kwOk (gof dn) fr tt sh nc := ⟨hnc, fun d j h => gof_n (by omega), fun c _ => hcb c⟩
theorem ve_5 {ve : Nat → Int} {t : Nat} (h : ∀ p, 0 ≤ ve p ∧ ve p ≤ (t : Int)) (ht : t ≤ 600) : ∀ p, 0 ≤ ve p ∧ ve p ≤ 100000 := fun p => by have := h p; omega
theorem ve_s {ve : Nat → Int} {t : Nat} (h : ∀ p, 0 ≤ ve p ∧ ve p ≤ (t : Int)) : ∀ p, 0 ≤ ve p ∧ ve p ≤ ((t + 1 : Nat) : Int) := fun p => by have := h p; omega
/-! the numbers of the exceptions -/
theorem m1_r {k : Int} (h : ¬ k = 0) : 1 ≤ m1 k ∧ m1 k ≤ 3 := by unfold m1; rw [if_neg h]; omega
theorem m0_r {k : Int} (h : ¬ k = 0) (h2 : 0 ≤ k ∧ k ≤ 3) : 1 ≤ m0 k ∧ m0 k ≤ 3 := by unfold m0; omega
theorem m2_r {k : Int} (h : ¬ k = 0) (h2 : 0 ≤ k ∧ k ≤ 3) : 1 ≤ m2 k ∧ m2 k ≤ 3 := by unfold m2; split <;> omega
/-! what holds of the state, kept -/
theorem hsb_up {fd fs fl fh : Nat → Int} {n : Nat} {a b x y : Int} (h : ∀ s, 0 ≤ fd s ∧ fd s < 5 ∧ -24 ≤ fs s ∧ fs s ≤ 24 ∧ 0 ≤ fl s ∧ fl s ≤ 96 ∧ 0 ≤ fh s ∧ fh s ≤ 96) (h2 : 0 ≤ a ∧ a < 5 ∧ -24 ≤ b ∧ b ≤ 24 ∧ 0 ≤ x ∧ x ≤ 96 ∧ 0 ≤ y ∧ y ≤ 96) : ∀ s, 0 ≤ va_up fd n a s ∧ va_up fd n a s < 5 ∧ -24 ≤ va_up fs n b s ∧ va_up fs n b s ≤ 24 ∧ 0 ≤ va_up fl n x s ∧ va_up fl n x s ≤ 96 ∧ 0 ≤ va_up fh n y s ∧ va_up fh n y s ≤ 96 := by
  intro s
  by_cases e : s = n
  · subst e; simp only [up_at]; exact h2
  · simp only [up_ne e]; exact h s
theorem hcb_up {fr tt sh : Nat → Int} {n : Nat} {a b x : Int} (h : ∀ c, 0 ≤ fr c ∧ fr c < 5 ∧ 0 ≤ tt c ∧ tt c < 5 ∧ -24 ≤ sh c ∧ sh c ≤ 24) (h2 : 0 ≤ a ∧ a < 5 ∧ 0 ≤ b ∧ b < 5 ∧ -24 ≤ x ∧ x ≤ 24) : ∀ c, 0 ≤ va_up fr n a c ∧ va_up fr n a c < 5 ∧ 0 ≤ va_up tt n b c ∧ va_up tt n b c < 5 ∧ -24 ≤ va_up sh n x c ∧ va_up sh n x c ≤ 24 := by
  intro s
  by_cases e : s = n
  · subst e; simp only [up_at]; exact h2
  · simp only [up_ne e]; exact h s
theorem h2_up {f : Nat → Int} {k : Nat} {v B : Int} (h : ∀ s, 0 ≤ f s ∧ f s ≤ B) (h2 : 0 ≤ v ∧ v ≤ B) : ∀ s, 0 ≤ va_up f k v s ∧ va_up f k v s ≤ B := by
  intro s
  by_cases e : s = k
  · subst e; rw [up_at]; exact h2
  · rw [up_ne e]; exact h s
theorem h2_if {f g : Nat → Int} {B : Int} {c : Prop} [Decidable c] (h : ∀ s, 0 ≤ f s ∧ f s ≤ B) (h2 : ∀ s, 0 ≤ g s ∧ g s ≤ B) : ∀ s, 0 ≤ (if c then f else g) s ∧ (if c then f else g) s ≤ B := by
  intro s
  split
  · exact h s
  · exact h2 s
theorem hkn_up {kn : Nat → Bool} {n k : Nat} {x : Bool} (h : ∀ j, n ≤ j → kn j = false) (hk : k < n) : ∀ j, n ≤ j → va_up kn k x j = false := fun j hj => by rw [up_ne (by omega)]; exact h j hj
theorem htg_kn {kn tg : Nat → Bool} {ft : Nat → Int} {k : Nat} {x : Bool} (h : ∀ s, 0 < ft s → tg s = !kn s) : ∀ s, 0 < va_up ft k 0 s → tg s = !va_up kn k x s := fun s hs => by
  by_cases e : s = k
  · subst e; rw [up_at] at hs; omega
  · rw [up_ne e] at hs ⊢; exact h s hs
theorem htg_rc {kn tg me : Nat → Bool} {ft fd : Nat → Int} {z q : Int} {at_ n : Nat} (h : ∀ s, 0 < ft s → tg s = !kn s) : ∀ s, 0 < rcf ft (msc fd z q) (mrd kn me at_) n s → tgf tg (msc fd z q) (mrv me at_) n s = !kn s := fun s hs => by
  unfold rcf at hs
  unfold tgf
  by_cases hn : s < n
  · rw [if_pos hn] at hs ⊢
    cases hm : msc fd z q s with
    | true =>
      rw [hm, if_pos rfl] at hs
      rw [if_pos rfl]
      unfold mrv
      cases hd : mrd kn me at_ s with
      | true =>
        unfold mrd at hd
        cases h1 : kn s <;> cases h2 : me (at_ + s) <;> simp_all
      | false => rw [hd, if_neg (by decide)] at hs; omega
    | false =>
      rw [hm, if_neg (by decide)] at hs
      rw [if_neg (by decide)]
      exact h s hs
  · rw [if_neg hn] at hs ⊢
    exact h s hs
theorem htg_tk {kn tg : Nat → Bool} {ft fc : Nat → Int} {n t : Nat} (h : ∀ s, 0 < ft s → tg s = !kn s) : ∀ s, 0 < tkp ft n t 0 s → tg s = !tkk kn tg ft fc n t 0 s := fun s hs => by
  unfold tkp tku at hs
  unfold tkk tku
  rw [if_neg (Nat.not_lt_zero s)] at hs ⊢
  by_cases hn : s < n
  · rw [if_pos hn] at hs
    by_cases h2 : ft s ≤ (t : Int)
    · rw [if_pos h2] at hs; omega
    · rw [if_neg (fun z => h2 z.2.2.1)]
      rw [if_neg h2] at hs
      exact h s (by omega)
  · rw [if_neg hn] at hs
    rw [if_neg (fun z => hn z.1)]
    exact h s hs
theorem hkn_tk {kn tg : Nat → Bool} {ft fc : Nat → Int} {n t : Nat} (h : ∀ j, n ≤ j → kn j = false) : ∀ j, n ≤ j → tkk kn tg ft fc n t 0 j = false := fun j hj => by
  unfold tkk
  rw [if_neg (fun z => by omega)]
  exact h j hj
theorem htg_fl {kn tg : Nat → Bool} {ft : Nat → Int} {k : Nat} (h : ∀ s, 0 < ft s → tg s = !kn s) : ∀ s, 0 < flf ft 0 k s → tg s = !kn s := fun s hs => by
  unfold flf at hs
  split at hs
  · omega
  · exact h s hs
theorem ve_wr {ve : Nat → Int} {t a k : Nat} (h : ∀ p, 0 ≤ ve p ∧ ve p ≤ (t : Int)) : ∀ p, 0 ≤ wrf ve a (gv ve 18 + 1) k p ∧ wrf ve a (gv ve 18 + 1) k p ≤ ((t + 1 : Nat) : Int) := fun p => by
  have h1 := h p
  have h2 := gv_b (fun p => (h p).2) (by omega) 18
  have h3 : 0 ≤ gv ve 18 := by
    show 0 ≤ max (gv ve 17) (ve 17)
    have := h 17
    omega
  unfold wrf
  split <;> omega
theorem h8_wr {ve : Nat → Int} {nf v : Int} : 0 ≤ ((tof nf : Nat) : Int) → wrf ve (9 * tof nf) v 9 (9 * (((tof nf : Nat) : Int)).toNat + 8) = wrf ve (9 * tof nf) v 9 (9 * (((tof nf : Nat) : Int)).toNat) := fun _ => by
  rw [Int.toNat_natCast]
  unfold wrf
  rw [if_pos (by omega), if_pos (by omega)]
