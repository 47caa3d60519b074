/-! what a reading method asks of the heap; and how a caller gives it -/
def PW (dC : Nat → ClassId) (dI : Nat → Nat → Nat) (ws : va_W) (tys : List (ClassId × FieldType)) : State → Prop := fun U => va_P (dC, dI) vwCl ws U.heap ∧ va_K (dC, dI) vwCl tys U
def PN (dC : Nat → ClassId) (dI : Nat → Nat → Nat) (ws : va_W) (tys : List (ClassId × FieldType)) : State → Prop := fun U => va_P (dC, dI) vwCl ws U.heap ∧ va_K (dC, dI) vwCl tys U ∧ NB U
section PRE
variable {dC : Nat → ClassId} {dI : Nat → Nat → Nat} {ws w0 : va_W} {tys : List (ClassId × FieldType)} {s : State} {H : Heap}
theorem PW_b (av : List Value) : FrameBlind (va_Pc av (PW dC dI ws tys)) := fun a U g mk q => ⟨q.1, q.2.1, va_K.moved (u := U) (U := U.calling g mk a) (Vm.Alike.refl U.vm) q.2.2⟩
theorem PN_b (av : List Value) : FrameBlind (va_Pc av (PN dC dI ws tys)) := fun a U g mk q => ⟨q.1, q.2.1, va_K.moved (u := U) (U := U.calling g mk a) (Vm.Alike.refl U.vm) q.2.2.1, NB.blind q.2.2.2⟩
theorem PW_S {av : List Value} (hP : va_P (dC, dI) vwCl ws H) (hK : va_K (dC, dI) vwCl tys s) : PreS s H (va_Pc av (PW dC dI ws tys)) av :=
  ⟨PW_b av, fun U hU hW => ⟨rfl, by rw [hU]; exact hP, va_K.moved hW.alike hK⟩⟩
theorem PN_S {av : List Value} (hP : va_P (dC, dI) vwCl ws H) (hK : va_K (dC, dI) vwCl tys s) (hN : NB s) : PreS s H (va_Pc av (PN dC dI ws tys)) av :=
  ⟨PN_b av, fun U hU hW => ⟨rfl, by rw [hU]; exact hP, va_K.moved hW.alike hK, hN.warm hW⟩⟩
theorem PW_V {av : List Value} {b q0 ci : Nat} {C : String} {T : u_T} {N : Nat} {fs : List Value} (hP0 : va_P (dC, dI) vwCl w0 H) (hP : va_P (dC, dI) vwCl ws H) (hK : va_K (dC, dI) vwCl tys s) (he : w0[q0]? = some (b, .inr (ci, fs))) (hc : vwCl[ci]? = some (C, T, N)) : PreV s H C b (va_Pc (.ref b :: av) (PW dC dI ws tys)) av :=
  ⟨PW_b _, va_recv hK hP0 hc he, fun U hU hW => ⟨rfl, by rw [hU]; exact hP, va_K.moved hW.alike hK⟩⟩
theorem PN_V {av : List Value} {b q0 ci : Nat} {C : String} {T : u_T} {N : Nat} {fs : List Value} (hP0 : va_P (dC, dI) vwCl w0 H) (hP : va_P (dC, dI) vwCl ws H) (hK : va_K (dC, dI) vwCl tys s) (hN : NB s) (he : w0[q0]? = some (b, .inr (ci, fs))) (hc : vwCl[ci]? = some (C, T, N)) : PreV s H C b (va_Pc (.ref b :: av) (PN dC dI ws tys)) av :=
  ⟨PN_b _, va_recv hK hP0 hc he, fun U hU hW => ⟨rfl, by rw [hU]; exact hP, va_K.moved hW.alike hK, hN.warm hW⟩⟩
end PRE
/-! the notes that keys and couplers reach -/
def rc (g : Nat → Nat → Bool) (fr tt sh : Nat → Int) (tb : Nat → Bool) (d w : Int) : Nat → Nat → Bool
  | 0, j => shf (g d.toNat) 0 w j
  | c + 1, j => rc g fr tt sh tb d w c j || (decide (tt c = d) && tb c && shf (g (fr c).toNat) (sh c) w j)
def kwOk (g : Nat → Nat → Bool) (fr tt sh : Nat → Int) (nc : Nat) : Prop := nc ≤ 16 ∧ (∀ d j, 61 ≤ j → g d j = false) ∧ ∀ c, c < nc → 0 ≤ fr c ∧ fr c < 5 ∧ 0 ≤ tt c ∧ tt c < 5 ∧ -24 ≤ sh c ∧ sh c ≤ 24
section RC
variable {g : Nat → Nat → Bool} {fr tt sh : Nat → Int} {tb : Nat → Bool} {d w : Int} {k : Nat}
theorem rc_0 : bL (shf (g d.toNat) 0 w) = bL (rc g fr tt sh tb d w 0) := bL_ext (fun j _ => rfl)
theorem rc_no1 (h : ¬ tt k = d) : bL (rc g fr tt sh tb d w k) = bL (rc g fr tt sh tb d w (k + 1)) := bL_ext (fun j _ => by simp [rc, h])
theorem rc_no2 (h : tb k = false) : bL (rc g fr tt sh tb d w k) = bL (rc g fr tt sh tb d w (k + 1)) := bL_ext (fun j _ => by simp [rc, h])
theorem rc_yes (h : tt k = d) (h2 : tb k = true) : bL (fun j => rc g fr tt sh tb d w k j || shf (g (fr k).toNat) (sh k) w j) = bL (rc g fr tt sh tb d w (k + 1)) := bL_ext (fun j _ => by simp [rc, h, h2])
end RC
def rb (g : Nat → Nat → Bool) (fr tt sh : Nat → Int) (tb : Nat → Bool) (nc : Nat) (d a b : Int) : Nat :=
  cnt (fun j => rc g fr tt sh tb d 0 nc j && spn a b 0 j) 64 + cnt (fun j => rc g fr tt sh tb d 1 nc j && spn a b 1 j) 64
def kd (g : Nat → Nat → Bool) : Nat := cnt (g 0) 64 + cnt (g 1) 64 + cnt (g 2) 64 + cnt (g 3) 64 + cnt (g 4) 64
def nr (g : Nat → Nat → Bool) (fr tt sh : Nat → Int) (tb : Nat → Bool) (nc : Nat) : Nat := rb g fr tt sh tb nc 0 0 96 + rb g fr tt sh tb nc 1 0 96 + rb g fr tt sh tb nc 2 0 96 + rb g fr tt sh tb nc 3 0 96 + rb g fr tt sh tb nc 4 0 96
