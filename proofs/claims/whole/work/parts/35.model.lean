/-! the reference -/
def gc (a b c : Bool) : Int := if a = true then (if b = true then (if c = true then 0 else 3) else 2) else 1
def plc (lv z q : Int) : Int := if z = 0 then 768 * lv + 48 * q else if z = 1 then 6144 + 1200 * lv + 48 * q else 15744 + 48 * q
def msc (fd : Nat → Int) (z q : Int) (s : Nat) : Bool := decide (z = 1 → fd s = q / 5)
def mus (me : Nat → Bool) (s : Nat) : Nat → Bool
  | 0 => false
  | k + 1 => mus me s k || me (20544 + 48 * (k + 1) + s)
def msp (kn me : Nat → Bool) (fo : Bool) (pe : Int) (s : Nat) : Bool := kn s || mus me s pe.toNat || fo
def mdn (dn : Nat → Bool) (d z : Int) : Bool := decide (0 ≤ z) && decide (z < 61) && dn (61 * d.toNat + z.toNat)
def mre (dn : Nat → Bool) (fr tt sh : Nat → Int) (tb : Nat → Bool) (d z : Int) : Nat → Bool
  | 0 => mdn dn d z
  | c + 1 => mre dn fr tt sh tb d z c || (tb c && decide (tt c = d) && mdn dn (fr c) (z - sh c))
theorem bo_1 {a : Bool} (h : a = true) : iI 1 = bI a := by subst h; rfl
theorem bo_0 {a : Bool} (h : a = false) : iI 0 = bI a := by subst h; rfl
set_option maxHeartbeats 200000 in
set_option maxRecDepth 100000 in
theorem c_mo_within (l : Launch)  (a b x : Int) (in_a : inI a) (in_b : inI b) (in_x : inI x) : Met l y_mo_within (Cond.code y_mo_within prog_8_method_4_code 3 (some .boolean) :: TB) ({ frames := 0, cells := 0, slots := 0, locals := 0 }) (va_Pc [.int (iI (a)), .int (iI (b)), .int (iI (x))] (fun U => True)) (k2_QcV (.int (bI (decide (b ≤ a) && decide (a ≤ x))))) 0 0 (fun _ => False) := by
  refine Met.ofW (cc := prog_8_method_4_code) (maxL := 3) (ret := (some .boolean)) (by decide) rfl ?_
  intro p e s m args below meth c s₁ B hml hv
  obtain ⟨ha, -⟩ := hv
  have hx := B.exec
  have hb := B.bytes
  have hr := B.returns
  have htb : ∀ w ∈ TB, w.before args s = true := fun w h => atoms_spec (ws := Cond.code y_mo_within prog_8_method_4_code 3 (some .boolean) :: TB) B.pre w (List.mem_cons_of_mem _ h)
  have hown : s.vm.findClass "OrganConsoleModel" = some m.cls := findClass_of_methodNamed B.named
  have hlocks := B.notSynchronized
  have hl := lv_entry ([.int (iI (a)), .int (iI (b)), .int (iI (x))]) (n := 3) (Nat.le_of_ble_eq_true rfl)
  refine W.eq (g2 := F0 m 0 _ []) (by rw [ha]; exact lg_entry_eq m ([.int (iI (a)), .int (iI (b)), .int (iI (x))]) 3) ?_
  generalize (lg_sl ([.int (iI (a)), .int (iI (b)), .int (iI (x))]) ++ List.replicate (3 - (lg_sl ([.int (iI (a)), .int (iI (b)), .int (iI (x))])).length) Slot.unset).toArray = ls at hl ⊢
  have hl : lv_has ls 3 [(0, .int (iI (a))), (1, .int (iI (b))), (2, .int (iI (x)))] := hl
  obtain ⟨i1_a, i2_a⟩ := in_a
  obtain ⟨i1_b, i2_b⟩ := in_b
  obtain ⟨i1_x, i2_x⟩ := in_x
  refine lv_iload_n hx hb d_mo_within_0 rfl (lv_at hl 0 rfl) ?_
  refine lv_iload_n hx hb d_mo_within_1 rfl (lv_at hl 1 rfl) ?_
  refine xi_icmp_lt (tgt := 14) hx hb ⟨by omega, by omega⟩ ⟨by omega, by omega⟩ d_mo_within_2 (by decide) (fun u_1 => ?_) (fun u_1 => ?_)
  · skip
    refine lv_iconst (v := iI (0)) hx hb d_mo_within_14 rfl ?_
    have q_2 : iI (0) = bI (decide (b ≤ a) && decide (a ≤ x)) := by
      exact bo_0 (by first | (rw [decide_eq_false (show ¬ b ≤ a by omega)]; rfl) | (rw [decide_eq_false (show ¬ a ≤ x by omega)]; simp))
    rw [q_2]
    exact W.zret (ty := .boolean) (v := bI (decide (b ≤ a) && decide (a ≤ x))) hx hb hr (bI_narrow _) (fun t ht hW => ⟨rfl, ht⟩) t_nil d_mo_within_15
  · skip
    refine lv_iload_n hx hb d_mo_within_5 rfl (lv_at hl 0 rfl) ?_
    refine lv_iload_n hx hb d_mo_within_6 rfl (lv_at hl 2 rfl) ?_
    refine xi_icmp_gt (tgt := 14) hx hb ⟨by omega, by omega⟩ ⟨by omega, by omega⟩ d_mo_within_7 (by decide) (fun u_3 => ?_) (fun u_3 => ?_)
    · skip
      refine lv_iconst (v := iI (0)) hx hb d_mo_within_14 rfl ?_
      have q_4 : iI (0) = bI (decide (b ≤ a) && decide (a ≤ x)) := by
        exact bo_0 (by first | (rw [decide_eq_false (show ¬ b ≤ a by omega)]; rfl) | (rw [decide_eq_false (show ¬ a ≤ x by omega)]; simp))
      rw [q_4]
      exact W.zret (ty := .boolean) (v := bI (decide (b ≤ a) && decide (a ≤ x))) hx hb hr (bI_narrow _) (fun t ht hW => ⟨rfl, ht⟩) t_nil d_mo_within_15
    · skip
      refine lv_iconst (v := iI (1)) hx hb d_mo_within_10 rfl ?_
      refine lv_goto (tgt := 15) hx hb d_mo_within_11 (by decide) ?_
      have q_5 : iI (1) = bI (decide (b ≤ a) && decide (a ≤ x)) := by
        exact bo_1 (by rw [decide_eq_true (by omega), decide_eq_true (by omega)]; rfl)
      rw [q_5]
      exact W.zret (ty := .boolean) (v := bI (decide (b ≤ a) && decide (a ≤ x))) hx hb hr (bI_narrow _) (fun t ht hW => ⟨rfl, ht⟩) t_nil d_mo_within_15

set_option maxHeartbeats 200000 in
set_option maxRecDepth 100000 in
theorem c_mo_goes (l : Launch) (dC : Nat → ClassId) (dI : Nat → Nat → Nat) (cI cL cZ : ClassId) (sz : Nat) (b0 b1 b2 b3 b4 b5 b6 b7 b8 b9 b10 b11 b12 b13 b14 b15 b16 b17 b18 b19 : Nat) (th lv pe cu fm nf : Int) (n nc : Nat) (fd fs fl fh ft fc fr tt sh cf ve li : Nat → Int) (kn tg tb dn me cp sp : Nat → Bool) (fo lk : Bool) (hn : n ≤ 48) (hnc : nc ≤ 16) (hft : ∀ s, 0 ≤ ft s ∧ ft s ≤ 3) (hfc : ∀ s, 0 ≤ fc s ∧ fc s ≤ 2) (hsb : ∀ s, 0 ≤ fd s ∧ fd s < 5 ∧ -24 ≤ fs s ∧ fs s ≤ 24 ∧ 0 ≤ fl s ∧ fl s ≤ 96 ∧ 0 ≤ fh s ∧ fh s ≤ 96) (hcb : ∀ c, 0 ≤ fr c ∧ fr c < 5 ∧ 0 ≤ tt c ∧ tt c < 5 ∧ -24 ≤ sh c ∧ sh c ≤ 24) (hve : ∀ p, 0 ≤ ve p ∧ ve p ≤ 100000) (hnf : nf = -1 ∨ nf = 0 ∨ nf = 1) (hlv : 0 ≤ lv ∧ lv ≤ 7) (hcu : -1 ≤ cu ∧ cu < fm) (hpe : 0 ≤ pe ∧ pe ≤ 15) (hfm : 0 ≤ fm ∧ fm ≤ 100) (hcf : ∀ c, 0 ≤ cf c ∧ cf c ≤ 100) (hli : ∀ j, 0 ≤ li j ∧ li j ≤ 2) (x y z : Bool) : Met l y_mo_goes (Cond.code y_mo_goes prog_8_method_3_code 4 (some .boolean) :: TB) ({ frames := 0, cells := 0, slots := 0, locals := 0 }) (va_Pc [.ref (b0), .int (bI (x)), .int (bI (y)), .int (bI (z))] (PS dC dI [(b0, .inr (6, [.int (iI (th)), .int (iI (((n : Nat) : Int))), .ref (b1), .ref (b2), .ref (b3), .ref (b4), .ref (b5), .ref (b6), .ref (b7), .ref (b8), .int (iI (((nc : Nat) : Int))), .ref (b9), .ref (b10), .ref (b11), .ref (b12), .ref (b13), .int (bI (fo)), .int (bI (lk)), .int (iI (lv)), .int (iI (pe)), .int (iI (cu)), .ref (b14), .int (iI (fm)), .ref (b15), .ref (b16), .ref (b17), .ref (b18), .int (iI (nf)), .ref (b19)])), (b1, .inl (cI, 48, .inl (aI (fd)))), (b2, .inl (cI, 48, .inl (aI (fs)))), (b3, .inl (cI, 48, .inl (aI (fl)))), (b4, .inl (cI, 48, .inl (aI (fh)))), (b5, .inl (cZ, 48, .inl (aZ (kn)))), (b6, .inl (cI, 48, .inl (aI (ft)))), (b7, .inl (cZ, 48, .inl (aZ (tg)))), (b8, .inl (cI, 48, .inl (aI (fc)))), (b9, .inl (cI, 16, .inl (aI (fr)))), (b10, .inl (cI, 16, .inl (aI (tt)))), (b11, .inl (cI, 16, .inl (aI (sh)))), (b12, .inl (cZ, 16, .inl (aZ (tb)))), (b13, .inl (cZ, 305, .inl (aZ (dn)))), (b14, .inl (cZ, 21312, .inl (aZ (me)))), (b15, .inl (cZ, 42624, .inl (aZ (cp)))), (b16, .inl (cI, 2, .inl (aI (cf)))), (b17, .inl (cI, 18, .inl (aI (ve)))), (b18, .inl (cZ, 18, .inl (aZ (sp)))), (b19, .inl (cI, 40, .inl (aI (li))))] [(cI, .int), (cL, .long), (cZ, .boolean)] sz)) (QW dC dI (some (.int (bI (x && y && z)))) [(b0, .inr (6, [.int (iI (gc x y z)), .int (iI (((n : Nat) : Int))), .ref (b1), .ref (b2), .ref (b3), .ref (b4), .ref (b5), .ref (b6), .ref (b7), .ref (b8), .int (iI (((nc : Nat) : Int))), .ref (b9), .ref (b10), .ref (b11), .ref (b12), .ref (b13), .int (bI (fo)), .int (bI (lk)), .int (iI (lv)), .int (iI (pe)), .int (iI (cu)), .ref (b14), .int (iI (fm)), .ref (b15), .ref (b16), .ref (b17), .ref (b18), .int (iI (nf)), .ref (b19)])), (b1, .inl (cI, 48, .inl (aI (fd)))), (b2, .inl (cI, 48, .inl (aI (fs)))), (b3, .inl (cI, 48, .inl (aI (fl)))), (b4, .inl (cI, 48, .inl (aI (fh)))), (b5, .inl (cZ, 48, .inl (aZ (kn)))), (b6, .inl (cI, 48, .inl (aI (ft)))), (b7, .inl (cZ, 48, .inl (aZ (tg)))), (b8, .inl (cI, 48, .inl (aI (fc)))), (b9, .inl (cI, 16, .inl (aI (fr)))), (b10, .inl (cI, 16, .inl (aI (tt)))), (b11, .inl (cI, 16, .inl (aI (sh)))), (b12, .inl (cZ, 16, .inl (aZ (tb)))), (b13, .inl (cZ, 305, .inl (aZ (dn)))), (b14, .inl (cZ, 21312, .inl (aZ (me)))), (b15, .inl (cZ, 42624, .inl (aZ (cp)))), (b16, .inl (cI, 2, .inl (aI (cf)))), (b17, .inl (cI, 18, .inl (aI (ve)))), (b18, .inl (cZ, 18, .inl (aZ (sp)))), (b19, .inl (cI, 40, .inl (aI (li))))] (va_A [(b0, .inr (6, [.int (iI (th)), .int (iI (((n : Nat) : Int))), .ref (b1), .ref (b2), .ref (b3), .ref (b4), .ref (b5), .ref (b6), .ref (b7), .ref (b8), .int (iI (((nc : Nat) : Int))), .ref (b9), .ref (b10), .ref (b11), .ref (b12), .ref (b13), .int (bI (fo)), .int (bI (lk)), .int (iI (lv)), .int (iI (pe)), .int (iI (cu)), .ref (b14), .int (iI (fm)), .ref (b15), .ref (b16), .ref (b17), .ref (b18), .int (iI (nf)), .ref (b19)])), (b1, .inl (cI, 48, .inl (aI (fd)))), (b2, .inl (cI, 48, .inl (aI (fs)))), (b3, .inl (cI, 48, .inl (aI (fl)))), (b4, .inl (cI, 48, .inl (aI (fh)))), (b5, .inl (cZ, 48, .inl (aZ (kn)))), (b6, .inl (cI, 48, .inl (aI (ft)))), (b7, .inl (cZ, 48, .inl (aZ (tg)))), (b8, .inl (cI, 48, .inl (aI (fc)))), (b9, .inl (cI, 16, .inl (aI (fr)))), (b10, .inl (cI, 16, .inl (aI (tt)))), (b11, .inl (cI, 16, .inl (aI (sh)))), (b12, .inl (cZ, 16, .inl (aZ (tb)))), (b13, .inl (cZ, 305, .inl (aZ (dn)))), (b14, .inl (cZ, 21312, .inl (aZ (me)))), (b15, .inl (cZ, 42624, .inl (aZ (cp)))), (b16, .inl (cI, 2, .inl (aI (cf)))), (b17, .inl (cI, 18, .inl (aI (ve)))), (b18, .inl (cZ, 18, .inl (aZ (sp)))), (b19, .inl (cI, 40, .inl (aI (li))))] sz)) 0 0 (va_A [(b0, .inr (6, [.int (iI (th)), .int (iI (((n : Nat) : Int))), .ref (b1), .ref (b2), .ref (b3), .ref (b4), .ref (b5), .ref (b6), .ref (b7), .ref (b8), .int (iI (((nc : Nat) : Int))), .ref (b9), .ref (b10), .ref (b11), .ref (b12), .ref (b13), .int (bI (fo)), .int (bI (lk)), .int (iI (lv)), .int (iI (pe)), .int (iI (cu)), .ref (b14), .int (iI (fm)), .ref (b15), .ref (b16), .ref (b17), .ref (b18), .int (iI (nf)), .ref (b19)])), (b1, .inl (cI, 48, .inl (aI (fd)))), (b2, .inl (cI, 48, .inl (aI (fs)))), (b3, .inl (cI, 48, .inl (aI (fl)))), (b4, .inl (cI, 48, .inl (aI (fh)))), (b5, .inl (cZ, 48, .inl (aZ (kn)))), (b6, .inl (cI, 48, .inl (aI (ft)))), (b7, .inl (cZ, 48, .inl (aZ (tg)))), (b8, .inl (cI, 48, .inl (aI (fc)))), (b9, .inl (cI, 16, .inl (aI (fr)))), (b10, .inl (cI, 16, .inl (aI (tt)))), (b11, .inl (cI, 16, .inl (aI (sh)))), (b12, .inl (cZ, 16, .inl (aZ (tb)))), (b13, .inl (cZ, 305, .inl (aZ (dn)))), (b14, .inl (cZ, 21312, .inl (aZ (me)))), (b15, .inl (cZ, 42624, .inl (aZ (cp)))), (b16, .inl (cI, 2, .inl (aI (cf)))), (b17, .inl (cI, 18, .inl (aI (ve)))), (b18, .inl (cZ, 18, .inl (aZ (sp)))), (b19, .inl (cI, 40, .inl (aI (li))))] sz) := by
  refine Met.ofW (cc := prog_8_method_3_code) (maxL := 4) (ret := (some .boolean)) (by decide) rfl ?_
  intro p e s m args below meth c s₁ B hml hv
  obtain ⟨ha, hsz, hP, hK, hD0, hN⟩ := hv
  have hx := B.exec
  have hb := B.bytes
  have hr := B.returns
  have htb : ∀ w ∈ TB, w.before args s = true := fun w h => atoms_spec (ws := Cond.code y_mo_goes prog_8_method_3_code 4 (some .boolean) :: TB) B.pre w (List.mem_cons_of_mem _ h)
  have hown : s.vm.findClass "OrganConsoleModel" = some m.cls := findClass_of_methodNamed B.named
  have hlocks := B.notSynchronized
  subst hsz
  have hD := hD0.self (sz := s.heap.size)
  generalize hAe : va_A [(b0, .inr (6, [.int (iI (th)), .int (iI (((n : Nat) : Int))), .ref (b1), .ref (b2), .ref (b3), .ref (b4), .ref (b5), .ref (b6), .ref (b7), .ref (b8), .int (iI (((nc : Nat) : Int))), .ref (b9), .ref (b10), .ref (b11), .ref (b12), .ref (b13), .int (bI (fo)), .int (bI (lk)), .int (iI (lv)), .int (iI (pe)), .int (iI (cu)), .ref (b14), .int (iI (fm)), .ref (b15), .ref (b16), .ref (b17), .ref (b18), .int (iI (nf)), .ref (b19)])), (b1, .inl (cI, 48, .inl (aI (fd)))), (b2, .inl (cI, 48, .inl (aI (fs)))), (b3, .inl (cI, 48, .inl (aI (fl)))), (b4, .inl (cI, 48, .inl (aI (fh)))), (b5, .inl (cZ, 48, .inl (aZ (kn)))), (b6, .inl (cI, 48, .inl (aI (ft)))), (b7, .inl (cZ, 48, .inl (aZ (tg)))), (b8, .inl (cI, 48, .inl (aI (fc)))), (b9, .inl (cI, 16, .inl (aI (fr)))), (b10, .inl (cI, 16, .inl (aI (tt)))), (b11, .inl (cI, 16, .inl (aI (sh)))), (b12, .inl (cZ, 16, .inl (aZ (tb)))), (b13, .inl (cZ, 305, .inl (aZ (dn)))), (b14, .inl (cZ, 21312, .inl (aZ (me)))), (b15, .inl (cZ, 42624, .inl (aZ (cp)))), (b16, .inl (cI, 2, .inl (aI (cf)))), (b17, .inl (cI, 18, .inl (aI (ve)))), (b18, .inl (cZ, 18, .inl (aZ (sp)))), (b19, .inl (cI, 40, .inl (aI (li))))] s.heap.size = A at hD ⊢
  have hA : ∀ q : Nat, s.heap.size ≤ q → A q := fun q h => by rw [← hAe]; exact Or.inr h
  have hS : va_S A s.heap s.heap [] := va_S.rf
  have hl := lv_entry ([.ref (b0), .int (bI (x)), .int (bI (y)), .int (bI (z))]) (n := 4) (Nat.le_of_ble_eq_true rfl)
  refine W.eq (g2 := F0 m 0 _ []) (by rw [ha]; exact lg_entry_eq m ([.ref (b0), .int (bI (x)), .int (bI (y)), .int (bI (z))]) 4) ?_
  generalize (lg_sl ([.ref (b0), .int (bI (x)), .int (bI (y)), .int (bI (z))]) ++ List.replicate (4 - (lg_sl ([.ref (b0), .int (bI (x)), .int (bI (y)), .int (bI (z))])).length) Slot.unset).toArray = ls at hl ⊢
  have hl : lv_has ls 4 [(0, .ref (b0)), (1, .int (bI (x))), (2, .int (bI (y))), (3, .int (bI (z)))] := hl
  refine lv_aload_n hx hb d_mo_goes_0 rfl (lv_at hl 0 rfl) ?_
  refine lv_iload_n hx hb d_mo_goes_1 rfl (lv_at hl 1 rfl) ?_
  refine xz_if_ne (tgt := 9) hx hb d_mo_goes_2 (by decide) (fun u_1 => ?_) (fun u_1 => ?_)
  · skip
    refine lv_iload_n hx hb d_mo_goes_9 rfl (lv_at hl 2 rfl) ?_
    refine xz_if_ne (tgt := 17) hx hb d_mo_goes_10 (by decide) (fun u_2 => ?_) (fun u_2 => ?_)
    · skip
      refine lv_iload_n hx hb d_mo_goes_17 rfl (lv_at hl 3 rfl) ?_
      refine xz_if_ne (tgt := 25) hx hb d_mo_goes_18 (by decide) (fun u_3 => ?_) (fun u_3 => ?_)
      · skip
        refine lv_iconst (v := iI (0)) hx hb d_mo_goes_25 rfl ?_
        refine va_put (D := (dC, dI)) (ci := 6) (v := .int (iI (0))) (ty := .int) (C := "OrganConsoleModel") (T := T_mo) (N := 29) hx hb htb in_mo ty_mo ty_mo_ok nm_mo hown hK hP hD hS 0 rfl rfl 0 (by decide) (htb _ tw_741) (fun _ h9 => h9) rfl (by decide +kernel) rfl rfl (Nat.le_of_ble_eq_true rfl) d_mo_goes_26 (fun H locs hP hD hS => ?_)
        have hP : va_P (dC, dI) vwCl [(b0, .inr (6, [.int (iI (0)), .int (iI (((n : Nat) : Int))), .ref (b1), .ref (b2), .ref (b3), .ref (b4), .ref (b5), .ref (b6), .ref (b7), .ref (b8), .int (iI (((nc : Nat) : Int))), .ref (b9), .ref (b10), .ref (b11), .ref (b12), .ref (b13), .int (bI (fo)), .int (bI (lk)), .int (iI (lv)), .int (iI (pe)), .int (iI (cu)), .ref (b14), .int (iI (fm)), .ref (b15), .ref (b16), .ref (b17), .ref (b18), .int (iI (nf)), .ref (b19)])), (b1, .inl (cI, 48, .inl (aI (fd)))), (b2, .inl (cI, 48, .inl (aI (fs)))), (b3, .inl (cI, 48, .inl (aI (fl)))), (b4, .inl (cI, 48, .inl (aI (fh)))), (b5, .inl (cZ, 48, .inl (aZ (kn)))), (b6, .inl (cI, 48, .inl (aI (ft)))), (b7, .inl (cZ, 48, .inl (aZ (tg)))), (b8, .inl (cI, 48, .inl (aI (fc)))), (b9, .inl (cI, 16, .inl (aI (fr)))), (b10, .inl (cI, 16, .inl (aI (tt)))), (b11, .inl (cI, 16, .inl (aI (sh)))), (b12, .inl (cZ, 16, .inl (aZ (tb)))), (b13, .inl (cZ, 305, .inl (aZ (dn)))), (b14, .inl (cZ, 21312, .inl (aZ (me)))), (b15, .inl (cZ, 42624, .inl (aZ (cp)))), (b16, .inl (cI, 2, .inl (aI (cf)))), (b17, .inl (cI, 18, .inl (aI (ve)))), (b18, .inl (cZ, 18, .inl (aZ (sp)))), (b19, .inl (cI, 40, .inl (aI (li))))] H := hP
        have hD : va_D A [(b0, .inr (6, [.int (iI (0)), .int (iI (((n : Nat) : Int))), .ref (b1), .ref (b2), .ref (b3), .ref (b4), .ref (b5), .ref (b6), .ref (b7), .ref (b8), .int (iI (((nc : Nat) : Int))), .ref (b9), .ref (b10), .ref (b11), .ref (b12), .ref (b13), .int (bI (fo)), .int (bI (lk)), .int (iI (lv)), .int (iI (pe)), .int (iI (cu)), .ref (b14), .int (iI (fm)), .ref (b15), .ref (b16), .ref (b17), .ref (b18), .int (iI (nf)), .ref (b19)])), (b1, .inl (cI, 48, .inl (aI (fd)))), (b2, .inl (cI, 48, .inl (aI (fs)))), (b3, .inl (cI, 48, .inl (aI (fl)))), (b4, .inl (cI, 48, .inl (aI (fh)))), (b5, .inl (cZ, 48, .inl (aZ (kn)))), (b6, .inl (cI, 48, .inl (aI (ft)))), (b7, .inl (cZ, 48, .inl (aZ (tg)))), (b8, .inl (cI, 48, .inl (aI (fc)))), (b9, .inl (cI, 16, .inl (aI (fr)))), (b10, .inl (cI, 16, .inl (aI (tt)))), (b11, .inl (cI, 16, .inl (aI (sh)))), (b12, .inl (cZ, 16, .inl (aZ (tb)))), (b13, .inl (cZ, 305, .inl (aZ (dn)))), (b14, .inl (cZ, 21312, .inl (aZ (me)))), (b15, .inl (cZ, 42624, .inl (aZ (cp)))), (b16, .inl (cI, 2, .inl (aI (cf)))), (b17, .inl (cI, 18, .inl (aI (ve)))), (b18, .inl (cZ, 18, .inl (aZ (sp)))), (b19, .inl (cI, 40, .inl (aI (li))))] := hD
        refine lv_aload_n hx hb d_mo_goes_29 rfl (lv_at hl 0 rfl) ?_
        refine va_get (D := (dC, dI)) (ci := 6) (v := .int (iI (0))) (C := "OrganConsoleModel") (T := T_mo) (N := 29) hx hb htb in_mo hown hK hP 0 rfl rfl 0 (by decide) (htb _ tw_741) (fun _ h9 => h9) rfl d_mo_goes_30 ?_
        refine xi_if_ne (tgt := 40) hx hb ⟨by omega, by omega⟩ d_mo_goes_33 (by decide) (fun u_4 => ?_) (fun u_4 => ?_)
        · exact absurd u_4 (by decide)
        refine lv_iconst (v := iI (1)) hx hb d_mo_goes_36 rfl ?_
        refine lv_goto (tgt := 41) hx hb d_mo_goes_37 (by decide) ?_
        have q_5 : iI (1) = bI (x && y && z) := by
          exact bo_1 (by simp_all)
        rw [q_5]
        have q_6 : iI (0) = iI (gc x y z) := congrArg iI (by unfold gc; simp_all)
        have hP : va_P (dC, dI) vwCl [(b0, .inr (6, [.int (iI (gc x y z)), .int (iI (((n : Nat) : Int))), .ref (b1), .ref (b2), .ref (b3), .ref (b4), .ref (b5), .ref (b6), .ref (b7), .ref (b8), .int (iI (((nc : Nat) : Int))), .ref (b9), .ref (b10), .ref (b11), .ref (b12), .ref (b13), .int (bI (fo)), .int (bI (lk)), .int (iI (lv)), .int (iI (pe)), .int (iI (cu)), .ref (b14), .int (iI (fm)), .ref (b15), .ref (b16), .ref (b17), .ref (b18), .int (iI (nf)), .ref (b19)])), (b1, .inl (cI, 48, .inl (aI (fd)))), (b2, .inl (cI, 48, .inl (aI (fs)))), (b3, .inl (cI, 48, .inl (aI (fl)))), (b4, .inl (cI, 48, .inl (aI (fh)))), (b5, .inl (cZ, 48, .inl (aZ (kn)))), (b6, .inl (cI, 48, .inl (aI (ft)))), (b7, .inl (cZ, 48, .inl (aZ (tg)))), (b8, .inl (cI, 48, .inl (aI (fc)))), (b9, .inl (cI, 16, .inl (aI (fr)))), (b10, .inl (cI, 16, .inl (aI (tt)))), (b11, .inl (cI, 16, .inl (aI (sh)))), (b12, .inl (cZ, 16, .inl (aZ (tb)))), (b13, .inl (cZ, 305, .inl (aZ (dn)))), (b14, .inl (cZ, 21312, .inl (aZ (me)))), (b15, .inl (cZ, 42624, .inl (aZ (cp)))), (b16, .inl (cI, 2, .inl (aI (cf)))), (b17, .inl (cI, 18, .inl (aI (ve)))), (b18, .inl (cZ, 18, .inl (aZ (sp)))), (b19, .inl (cI, 40, .inl (aI (li))))] H := P_eq hP (congr (congrArg List.cons (congrArg (fun z9 => ((b0 : Nat), (Sum.inr (6, z9) : va_E))) (show ([.int (iI (0)), .int (iI (((n : Nat) : Int))), .ref (b1), .ref (b2), .ref (b3), .ref (b4), .ref (b5), .ref (b6), .ref (b7), .ref (b8), .int (iI (((nc : Nat) : Int))), .ref (b9), .ref (b10), .ref (b11), .ref (b12), .ref (b13), .int (bI (fo)), .int (bI (lk)), .int (iI (lv)), .int (iI (pe)), .int (iI (cu)), .ref (b14), .int (iI (fm)), .ref (b15), .ref (b16), .ref (b17), .ref (b18), .int (iI (nf)), .ref (b19)] : List Value) = [.int (iI (gc x y z)), .int (iI (((n : Nat) : Int))), .ref (b1), .ref (b2), .ref (b3), .ref (b4), .ref (b5), .ref (b6), .ref (b7), .ref (b8), .int (iI (((nc : Nat) : Int))), .ref (b9), .ref (b10), .ref (b11), .ref (b12), .ref (b13), .int (bI (fo)), .int (bI (lk)), .int (iI (lv)), .int (iI (pe)), .int (iI (cu)), .ref (b14), .int (iI (fm)), .ref (b15), .ref (b16), .ref (b17), .ref (b18), .int (iI (nf)), .ref (b19)] from congr (congrArg List.cons (congrArg Value.int q_6)) (congrArg (List.cons _) (congrArg (List.cons _) (congrArg (List.cons _) (congrArg (List.cons _) (congrArg (List.cons _) (congrArg (List.cons _) (congrArg (List.cons _) (congrArg (List.cons _) (congrArg (List.cons _) (congrArg (List.cons _) (congrArg (List.cons _) (congrArg (List.cons _) (congrArg (List.cons _) (congrArg (List.cons _) (congrArg (List.cons _) (congrArg (List.cons _) (congrArg (List.cons _) (congrArg (List.cons _) (congrArg (List.cons _) (congrArg (List.cons _) (congrArg (List.cons _) (congrArg (List.cons _) (congrArg (List.cons _) (congrArg (List.cons _) (congrArg (List.cons _) (congrArg (List.cons _) (congrArg (List.cons _) (congrArg (List.cons _) (rfl)))))))))))))))))))))))))))))))) (congrArg (List.cons _) (congrArg (List.cons _) (congrArg (List.cons _) (congrArg (List.cons _) (congrArg (List.cons _) (congrArg (List.cons _) (congrArg (List.cons _) (congrArg (List.cons _) (congrArg (List.cons _) (congrArg (List.cons _) (congrArg (List.cons _) (congrArg (List.cons _) (congrArg (List.cons _) (congrArg (List.cons _) (congrArg (List.cons _) (congrArg (List.cons _) (congrArg (List.cons _) (congrArg (List.cons _) (congrArg (List.cons _) (rfl)))))))))))))))))))))
        exact W.zret (ty := .boolean) (v := bI (x && y && z)) hx hb hr (bI_narrow _) (fun t ht hW => ⟨rfl, by rw [ht]; exact hP, hS.F ht⟩) hS.2.2 d_mo_goes_41
      · skip
        refine lv_iconst (v := iI (3)) hx hb d_mo_goes_21 rfl ?_
        refine lv_goto (tgt := 26) hx hb d_mo_goes_22 (by decide) ?_
        refine va_put (D := (dC, dI)) (ci := 6) (v := .int (iI (3))) (ty := .int) (C := "OrganConsoleModel") (T := T_mo) (N := 29) hx hb htb in_mo ty_mo ty_mo_ok nm_mo hown hK hP hD hS 0 rfl rfl 0 (by decide) (htb _ tw_741) (fun _ h9 => h9) rfl (by decide +kernel) rfl rfl (Nat.le_of_ble_eq_true rfl) d_mo_goes_26 (fun H locs hP hD hS => ?_)
        have hP : va_P (dC, dI) vwCl [(b0, .inr (6, [.int (iI (3)), .int (iI (((n : Nat) : Int))), .ref (b1), .ref (b2), .ref (b3), .ref (b4), .ref (b5), .ref (b6), .ref (b7), .ref (b8), .int (iI (((nc : Nat) : Int))), .ref (b9), .ref (b10), .ref (b11), .ref (b12), .ref (b13), .int (bI (fo)), .int (bI (lk)), .int (iI (lv)), .int (iI (pe)), .int (iI (cu)), .ref (b14), .int (iI (fm)), .ref (b15), .ref (b16), .ref (b17), .ref (b18), .int (iI (nf)), .ref (b19)])), (b1, .inl (cI, 48, .inl (aI (fd)))), (b2, .inl (cI, 48, .inl (aI (fs)))), (b3, .inl (cI, 48, .inl (aI (fl)))), (b4, .inl (cI, 48, .inl (aI (fh)))), (b5, .inl (cZ, 48, .inl (aZ (kn)))), (b6, .inl (cI, 48, .inl (aI (ft)))), (b7, .inl (cZ, 48, .inl (aZ (tg)))), (b8, .inl (cI, 48, .inl (aI (fc)))), (b9, .inl (cI, 16, .inl (aI (fr)))), (b10, .inl (cI, 16, .inl (aI (tt)))), (b11, .inl (cI, 16, .inl (aI (sh)))), (b12, .inl (cZ, 16, .inl (aZ (tb)))), (b13, .inl (cZ, 305, .inl (aZ (dn)))), (b14, .inl (cZ, 21312, .inl (aZ (me)))), (b15, .inl (cZ, 42624, .inl (aZ (cp)))), (b16, .inl (cI, 2, .inl (aI (cf)))), (b17, .inl (cI, 18, .inl (aI (ve)))), (b18, .inl (cZ, 18, .inl (aZ (sp)))), (b19, .inl (cI, 40, .inl (aI (li))))] H := hP
        have hD : va_D A [(b0, .inr (6, [.int (iI (3)), .int (iI (((n : Nat) : Int))), .ref (b1), .ref (b2), .ref (b3), .ref (b4), .ref (b5), .ref (b6), .ref (b7), .ref (b8), .int (iI (((nc : Nat) : Int))), .ref (b9), .ref (b10), .ref (b11), .ref (b12), .ref (b13), .int (bI (fo)), .int (bI (lk)), .int (iI (lv)), .int (iI (pe)), .int (iI (cu)), .ref (b14), .int (iI (fm)), .ref (b15), .ref (b16), .ref (b17), .ref (b18), .int (iI (nf)), .ref (b19)])), (b1, .inl (cI, 48, .inl (aI (fd)))), (b2, .inl (cI, 48, .inl (aI (fs)))), (b3, .inl (cI, 48, .inl (aI (fl)))), (b4, .inl (cI, 48, .inl (aI (fh)))), (b5, .inl (cZ, 48, .inl (aZ (kn)))), (b6, .inl (cI, 48, .inl (aI (ft)))), (b7, .inl (cZ, 48, .inl (aZ (tg)))), (b8, .inl (cI, 48, .inl (aI (fc)))), (b9, .inl (cI, 16, .inl (aI (fr)))), (b10, .inl (cI, 16, .inl (aI (tt)))), (b11, .inl (cI, 16, .inl (aI (sh)))), (b12, .inl (cZ, 16, .inl (aZ (tb)))), (b13, .inl (cZ, 305, .inl (aZ (dn)))), (b14, .inl (cZ, 21312, .inl (aZ (me)))), (b15, .inl (cZ, 42624, .inl (aZ (cp)))), (b16, .inl (cI, 2, .inl (aI (cf)))), (b17, .inl (cI, 18, .inl (aI (ve)))), (b18, .inl (cZ, 18, .inl (aZ (sp)))), (b19, .inl (cI, 40, .inl (aI (li))))] := hD
        refine lv_aload_n hx hb d_mo_goes_29 rfl (lv_at hl 0 rfl) ?_
        refine va_get (D := (dC, dI)) (ci := 6) (v := .int (iI (3))) (C := "OrganConsoleModel") (T := T_mo) (N := 29) hx hb htb in_mo hown hK hP 0 rfl rfl 0 (by decide) (htb _ tw_741) (fun _ h9 => h9) rfl d_mo_goes_30 ?_
        refine xi_if_ne (tgt := 40) hx hb ⟨by omega, by omega⟩ d_mo_goes_33 (by decide) (fun u_7 => ?_) (fun u_7 => ?_)
        rotate_left
        · exact absurd u_7 (by decide)
        refine lv_iconst (v := iI (0)) hx hb d_mo_goes_40 rfl ?_
        have q_8 : iI (0) = bI (x && y && z) := by
          exact bo_0 (by simp_all)
        rw [q_8]
        have q_9 : iI (3) = iI (gc x y z) := congrArg iI (by unfold gc; simp_all)
        have hP : va_P (dC, dI) vwCl [(b0, .inr (6, [.int (iI (gc x y z)), .int (iI (((n : Nat) : Int))), .ref (b1), .ref (b2), .ref (b3), .ref (b4), .ref (b5), .ref (b6), .ref (b7), .ref (b8), .int (iI (((nc : Nat) : Int))), .ref (b9), .ref (b10), .ref (b11), .ref (b12), .ref (b13), .int (bI (fo)), .int (bI (lk)), .int (iI (lv)), .int (iI (pe)), .int (iI (cu)), .ref (b14), .int (iI (fm)), .ref (b15), .ref (b16), .ref (b17), .ref (b18), .int (iI (nf)), .ref (b19)])), (b1, .inl (cI, 48, .inl (aI (fd)))), (b2, .inl (cI, 48, .inl (aI (fs)))), (b3, .inl (cI, 48, .inl (aI (fl)))), (b4, .inl (cI, 48, .inl (aI (fh)))), (b5, .inl (cZ, 48, .inl (aZ (kn)))), (b6, .inl (cI, 48, .inl (aI (ft)))), (b7, .inl (cZ, 48, .inl (aZ (tg)))), (b8, .inl (cI, 48, .inl (aI (fc)))), (b9, .inl (cI, 16, .inl (aI (fr)))), (b10, .inl (cI, 16, .inl (aI (tt)))), (b11, .inl (cI, 16, .inl (aI (sh)))), (b12, .inl (cZ, 16, .inl (aZ (tb)))), (b13, .inl (cZ, 305, .inl (aZ (dn)))), (b14, .inl (cZ, 21312, .inl (aZ (me)))), (b15, .inl (cZ, 42624, .inl (aZ (cp)))), (b16, .inl (cI, 2, .inl (aI (cf)))), (b17, .inl (cI, 18, .inl (aI (ve)))), (b18, .inl (cZ, 18, .inl (aZ (sp)))), (b19, .inl (cI, 40, .inl (aI (li))))] H := P_eq hP (congr (congrArg List.cons (congrArg (fun z9 => ((b0 : Nat), (Sum.inr (6, z9) : va_E))) (show ([.int (iI (3)), .int (iI (((n : Nat) : Int))), .ref (b1), .ref (b2), .ref (b3), .ref (b4), .ref (b5), .ref (b6), .ref (b7), .ref (b8), .int (iI (((nc : Nat) : Int))), .ref (b9), .ref (b10), .ref (b11), .ref (b12), .ref (b13), .int (bI (fo)), .int (bI (lk)), .int (iI (lv)), .int (iI (pe)), .int (iI (cu)), .ref (b14), .int (iI (fm)), .ref (b15), .ref (b16), .ref (b17), .ref (b18), .int (iI (nf)), .ref (b19)] : List Value) = [.int (iI (gc x y z)), .int (iI (((n : Nat) : Int))), .ref (b1), .ref (b2), .ref (b3), .ref (b4), .ref (b5), .ref (b6), .ref (b7), .ref (b8), .int (iI (((nc : Nat) : Int))), .ref (b9), .ref (b10), .ref (b11), .ref (b12), .ref (b13), .int (bI (fo)), .int (bI (lk)), .int (iI (lv)), .int (iI (pe)), .int (iI (cu)), .ref (b14), .int (iI (fm)), .ref (b15), .ref (b16), .ref (b17), .ref (b18), .int (iI (nf)), .ref (b19)] from congr (congrArg List.cons (congrArg Value.int q_9)) (congrArg (List.cons _) (congrArg (List.cons _) (congrArg (List.cons _) (congrArg (List.cons _) (congrArg (List.cons _) (congrArg (List.cons _) (congrArg (List.cons _) (congrArg (List.cons _) (congrArg (List.cons _) (congrArg (List.cons _) (congrArg (List.cons _) (congrArg (List.cons _) (congrArg (List.cons _) (congrArg (List.cons _) (congrArg (List.cons _) (congrArg (List.cons _) (congrArg (List.cons _) (congrArg (List.cons _) (congrArg (List.cons _) (congrArg (List.cons _) (congrArg (List.cons _) (congrArg (List.cons _) (congrArg (List.cons _) (congrArg (List.cons _) (congrArg (List.cons _) (congrArg (List.cons _) (congrArg (List.cons _) (congrArg (List.cons _) (rfl)))))))))))))))))))))))))))))))) (congrArg (List.cons _) (congrArg (List.cons _) (congrArg (List.cons _) (congrArg (List.cons _) (congrArg (List.cons _) (congrArg (List.cons _) (congrArg (List.cons _) (congrArg (List.cons _) (congrArg (List.cons _) (congrArg (List.cons _) (congrArg (List.cons _) (congrArg (List.cons _) (congrArg (List.cons _) (congrArg (List.cons _) (congrArg (List.cons _) (congrArg (List.cons _) (congrArg (List.cons _) (congrArg (List.cons _) (congrArg (List.cons _) (rfl)))))))))))))))))))))
        exact W.zret (ty := .boolean) (v := bI (x && y && z)) hx hb hr (bI_narrow _) (fun t ht hW => ⟨rfl, by rw [ht]; exact hP, hS.F ht⟩) hS.2.2 d_mo_goes_41
    · skip
      refine lv_iconst (v := iI (2)) hx hb d_mo_goes_13 rfl ?_
      refine lv_goto (tgt := 26) hx hb d_mo_goes_14 (by decide) ?_
      refine va_put (D := (dC, dI)) (ci := 6) (v := .int (iI (2))) (ty := .int) (C := "OrganConsoleModel") (T := T_mo) (N := 29) hx hb htb in_mo ty_mo ty_mo_ok nm_mo hown hK hP hD hS 0 rfl rfl 0 (by decide) (htb _ tw_741) (fun _ h9 => h9) rfl (by decide +kernel) rfl rfl (Nat.le_of_ble_eq_true rfl) d_mo_goes_26 (fun H locs hP hD hS => ?_)
      have hP : va_P (dC, dI) vwCl [(b0, .inr (6, [.int (iI (2)), .int (iI (((n : Nat) : Int))), .ref (b1), .ref (b2), .ref (b3), .ref (b4), .ref (b5), .ref (b6), .ref (b7), .ref (b8), .int (iI (((nc : Nat) : Int))), .ref (b9), .ref (b10), .ref (b11), .ref (b12), .ref (b13), .int (bI (fo)), .int (bI (lk)), .int (iI (lv)), .int (iI (pe)), .int (iI (cu)), .ref (b14), .int (iI (fm)), .ref (b15), .ref (b16), .ref (b17), .ref (b18), .int (iI (nf)), .ref (b19)])), (b1, .inl (cI, 48, .inl (aI (fd)))), (b2, .inl (cI, 48, .inl (aI (fs)))), (b3, .inl (cI, 48, .inl (aI (fl)))), (b4, .inl (cI, 48, .inl (aI (fh)))), (b5, .inl (cZ, 48, .inl (aZ (kn)))), (b6, .inl (cI, 48, .inl (aI (ft)))), (b7, .inl (cZ, 48, .inl (aZ (tg)))), (b8, .inl (cI, 48, .inl (aI (fc)))), (b9, .inl (cI, 16, .inl (aI (fr)))), (b10, .inl (cI, 16, .inl (aI (tt)))), (b11, .inl (cI, 16, .inl (aI (sh)))), (b12, .inl (cZ, 16, .inl (aZ (tb)))), (b13, .inl (cZ, 305, .inl (aZ (dn)))), (b14, .inl (cZ, 21312, .inl (aZ (me)))), (b15, .inl (cZ, 42624, .inl (aZ (cp)))), (b16, .inl (cI, 2, .inl (aI (cf)))), (b17, .inl (cI, 18, .inl (aI (ve)))), (b18, .inl (cZ, 18, .inl (aZ (sp)))), (b19, .inl (cI, 40, .inl (aI (li))))] H := hP
      have hD : va_D A [(b0, .inr (6, [.int (iI (2)), .int (iI (((n : Nat) : Int))), .ref (b1), .ref (b2), .ref (b3), .ref (b4), .ref (b5), .ref (b6), .ref (b7), .ref (b8), .int (iI (((nc : Nat) : Int))), .ref (b9), .ref (b10), .ref (b11), .ref (b12), .ref (b13), .int (bI (fo)), .int (bI (lk)), .int (iI (lv)), .int (iI (pe)), .int (iI (cu)), .ref (b14), .int (iI (fm)), .ref (b15), .ref (b16), .ref (b17), .ref (b18), .int (iI (nf)), .ref (b19)])), (b1, .inl (cI, 48, .inl (aI (fd)))), (b2, .inl (cI, 48, .inl (aI (fs)))), (b3, .inl (cI, 48, .inl (aI (fl)))), (b4, .inl (cI, 48, .inl (aI (fh)))), (b5, .inl (cZ, 48, .inl (aZ (kn)))), (b6, .inl (cI, 48, .inl (aI (ft)))), (b7, .inl (cZ, 48, .inl (aZ (tg)))), (b8, .inl (cI, 48, .inl (aI (fc)))), (b9, .inl (cI, 16, .inl (aI (fr)))), (b10, .inl (cI, 16, .inl (aI (tt)))), (b11, .inl (cI, 16, .inl (aI (sh)))), (b12, .inl (cZ, 16, .inl (aZ (tb)))), (b13, .inl (cZ, 305, .inl (aZ (dn)))), (b14, .inl (cZ, 21312, .inl (aZ (me)))), (b15, .inl (cZ, 42624, .inl (aZ (cp)))), (b16, .inl (cI, 2, .inl (aI (cf)))), (b17, .inl (cI, 18, .inl (aI (ve)))), (b18, .inl (cZ, 18, .inl (aZ (sp)))), (b19, .inl (cI, 40, .inl (aI (li))))] := hD
      refine lv_aload_n hx hb d_mo_goes_29 rfl (lv_at hl 0 rfl) ?_
      refine va_get (D := (dC, dI)) (ci := 6) (v := .int (iI (2))) (C := "OrganConsoleModel") (T := T_mo) (N := 29) hx hb htb in_mo hown hK hP 0 rfl rfl 0 (by decide) (htb _ tw_741) (fun _ h9 => h9) rfl d_mo_goes_30 ?_
      refine xi_if_ne (tgt := 40) hx hb ⟨by omega, by omega⟩ d_mo_goes_33 (by decide) (fun u_10 => ?_) (fun u_10 => ?_)
      rotate_left
      · exact absurd u_10 (by decide)
      refine lv_iconst (v := iI (0)) hx hb d_mo_goes_40 rfl ?_
      have q_11 : iI (0) = bI (x && y && z) := by
        exact bo_0 (by simp_all)
      rw [q_11]
      have q_12 : iI (2) = iI (gc x y z) := congrArg iI (by unfold gc; simp_all)
      have hP : va_P (dC, dI) vwCl [(b0, .inr (6, [.int (iI (gc x y z)), .int (iI (((n : Nat) : Int))), .ref (b1), .ref (b2), .ref (b3), .ref (b4), .ref (b5), .ref (b6), .ref (b7), .ref (b8), .int (iI (((nc : Nat) : Int))), .ref (b9), .ref (b10), .ref (b11), .ref (b12), .ref (b13), .int (bI (fo)), .int (bI (lk)), .int (iI (lv)), .int (iI (pe)), .int (iI (cu)), .ref (b14), .int (iI (fm)), .ref (b15), .ref (b16), .ref (b17), .ref (b18), .int (iI (nf)), .ref (b19)])), (b1, .inl (cI, 48, .inl (aI (fd)))), (b2, .inl (cI, 48, .inl (aI (fs)))), (b3, .inl (cI, 48, .inl (aI (fl)))), (b4, .inl (cI, 48, .inl (aI (fh)))), (b5, .inl (cZ, 48, .inl (aZ (kn)))), (b6, .inl (cI, 48, .inl (aI (ft)))), (b7, .inl (cZ, 48, .inl (aZ (tg)))), (b8, .inl (cI, 48, .inl (aI (fc)))), (b9, .inl (cI, 16, .inl (aI (fr)))), (b10, .inl (cI, 16, .inl (aI (tt)))), (b11, .inl (cI, 16, .inl (aI (sh)))), (b12, .inl (cZ, 16, .inl (aZ (tb)))), (b13, .inl (cZ, 305, .inl (aZ (dn)))), (b14, .inl (cZ, 21312, .inl (aZ (me)))), (b15, .inl (cZ, 42624, .inl (aZ (cp)))), (b16, .inl (cI, 2, .inl (aI (cf)))), (b17, .inl (cI, 18, .inl (aI (ve)))), (b18, .inl (cZ, 18, .inl (aZ (sp)))), (b19, .inl (cI, 40, .inl (aI (li))))] H := P_eq hP (congr (congrArg List.cons (congrArg (fun z9 => ((b0 : Nat), (Sum.inr (6, z9) : va_E))) (show ([.int (iI (2)), .int (iI (((n : Nat) : Int))), .ref (b1), .ref (b2), .ref (b3), .ref (b4), .ref (b5), .ref (b6), .ref (b7), .ref (b8), .int (iI (((nc : Nat) : Int))), .ref (b9), .ref (b10), .ref (b11), .ref (b12), .ref (b13), .int (bI (fo)), .int (bI (lk)), .int (iI (lv)), .int (iI (pe)), .int (iI (cu)), .ref (b14), .int (iI (fm)), .ref (b15), .ref (b16), .ref (b17), .ref (b18), .int (iI (nf)), .ref (b19)] : List Value) = [.int (iI (gc x y z)), .int (iI (((n : Nat) : Int))), .ref (b1), .ref (b2), .ref (b3), .ref (b4), .ref (b5), .ref (b6), .ref (b7), .ref (b8), .int (iI (((nc : Nat) : Int))), .ref (b9), .ref (b10), .ref (b11), .ref (b12), .ref (b13), .int (bI (fo)), .int (bI (lk)), .int (iI (lv)), .int (iI (pe)), .int (iI (cu)), .ref (b14), .int (iI (fm)), .ref (b15), .ref (b16), .ref (b17), .ref (b18), .int (iI (nf)), .ref (b19)] from congr (congrArg List.cons (congrArg Value.int q_12)) (congrArg (List.cons _) (congrArg (List.cons _) (congrArg (List.cons _) (congrArg (List.cons _) (congrArg (List.cons _) (congrArg (List.cons _) (congrArg (List.cons _) (congrArg (List.cons _) (congrArg (List.cons _) (congrArg (List.cons _) (congrArg (List.cons _) (congrArg (List.cons _) (congrArg (List.cons _) (congrArg (List.cons _) (congrArg (List.cons _) (congrArg (List.cons _) (congrArg (List.cons _) (congrArg (List.cons _) (congrArg (List.cons _) (congrArg (List.cons _) (congrArg (List.cons _) (congrArg (List.cons _) (congrArg (List.cons _) (congrArg (List.cons _) (congrArg (List.cons _) (congrArg (List.cons _) (congrArg (List.cons _) (congrArg (List.cons _) (rfl)))))))))))))))))))))))))))))))) (congrArg (List.cons _) (congrArg (List.cons _) (congrArg (List.cons _) (congrArg (List.cons _) (congrArg (List.cons _) (congrArg (List.cons _) (congrArg (List.cons _) (congrArg (List.cons _) (congrArg (List.cons _) (congrArg (List.cons _) (congrArg (List.cons _) (congrArg (List.cons _) (congrArg (List.cons _) (congrArg (List.cons _) (congrArg (List.cons _) (congrArg (List.cons _) (congrArg (List.cons _) (congrArg (List.cons _) (congrArg (List.cons _) (rfl)))))))))))))))))))))
      exact W.zret (ty := .boolean) (v := bI (x && y && z)) hx hb hr (bI_narrow _) (fun t ht hW => ⟨rfl, by rw [ht]; exact hP, hS.F ht⟩) hS.2.2 d_mo_goes_41
  · skip
    refine lv_iconst (v := iI (1)) hx hb d_mo_goes_5 rfl ?_
    refine lv_goto (tgt := 26) hx hb d_mo_goes_6 (by decide) ?_
    refine va_put (D := (dC, dI)) (ci := 6) (v := .int (iI (1))) (ty := .int) (C := "OrganConsoleModel") (T := T_mo) (N := 29) hx hb htb in_mo ty_mo ty_mo_ok nm_mo hown hK hP hD hS 0 rfl rfl 0 (by decide) (htb _ tw_741) (fun _ h9 => h9) rfl (by decide +kernel) rfl rfl (Nat.le_of_ble_eq_true rfl) d_mo_goes_26 (fun H locs hP hD hS => ?_)
    have hP : va_P (dC, dI) vwCl [(b0, .inr (6, [.int (iI (1)), .int (iI (((n : Nat) : Int))), .ref (b1), .ref (b2), .ref (b3), .ref (b4), .ref (b5), .ref (b6), .ref (b7), .ref (b8), .int (iI (((nc : Nat) : Int))), .ref (b9), .ref (b10), .ref (b11), .ref (b12), .ref (b13), .int (bI (fo)), .int (bI (lk)), .int (iI (lv)), .int (iI (pe)), .int (iI (cu)), .ref (b14), .int (iI (fm)), .ref (b15), .ref (b16), .ref (b17), .ref (b18), .int (iI (nf)), .ref (b19)])), (b1, .inl (cI, 48, .inl (aI (fd)))), (b2, .inl (cI, 48, .inl (aI (fs)))), (b3, .inl (cI, 48, .inl (aI (fl)))), (b4, .inl (cI, 48, .inl (aI (fh)))), (b5, .inl (cZ, 48, .inl (aZ (kn)))), (b6, .inl (cI, 48, .inl (aI (ft)))), (b7, .inl (cZ, 48, .inl (aZ (tg)))), (b8, .inl (cI, 48, .inl (aI (fc)))), (b9, .inl (cI, 16, .inl (aI (fr)))), (b10, .inl (cI, 16, .inl (aI (tt)))), (b11, .inl (cI, 16, .inl (aI (sh)))), (b12, .inl (cZ, 16, .inl (aZ (tb)))), (b13, .inl (cZ, 305, .inl (aZ (dn)))), (b14, .inl (cZ, 21312, .inl (aZ (me)))), (b15, .inl (cZ, 42624, .inl (aZ (cp)))), (b16, .inl (cI, 2, .inl (aI (cf)))), (b17, .inl (cI, 18, .inl (aI (ve)))), (b18, .inl (cZ, 18, .inl (aZ (sp)))), (b19, .inl (cI, 40, .inl (aI (li))))] H := hP
    have hD : va_D A [(b0, .inr (6, [.int (iI (1)), .int (iI (((n : Nat) : Int))), .ref (b1), .ref (b2), .ref (b3), .ref (b4), .ref (b5), .ref (b6), .ref (b7), .ref (b8), .int (iI (((nc : Nat) : Int))), .ref (b9), .ref (b10), .ref (b11), .ref (b12), .ref (b13), .int (bI (fo)), .int (bI (lk)), .int (iI (lv)), .int (iI (pe)), .int (iI (cu)), .ref (b14), .int (iI (fm)), .ref (b15), .ref (b16), .ref (b17), .ref (b18), .int (iI (nf)), .ref (b19)])), (b1, .inl (cI, 48, .inl (aI (fd)))), (b2, .inl (cI, 48, .inl (aI (fs)))), (b3, .inl (cI, 48, .inl (aI (fl)))), (b4, .inl (cI, 48, .inl (aI (fh)))), (b5, .inl (cZ, 48, .inl (aZ (kn)))), (b6, .inl (cI, 48, .inl (aI (ft)))), (b7, .inl (cZ, 48, .inl (aZ (tg)))), (b8, .inl (cI, 48, .inl (aI (fc)))), (b9, .inl (cI, 16, .inl (aI (fr)))), (b10, .inl (cI, 16, .inl (aI (tt)))), (b11, .inl (cI, 16, .inl (aI (sh)))), (b12, .inl (cZ, 16, .inl (aZ (tb)))), (b13, .inl (cZ, 305, .inl (aZ (dn)))), (b14, .inl (cZ, 21312, .inl (aZ (me)))), (b15, .inl (cZ, 42624, .inl (aZ (cp)))), (b16, .inl (cI, 2, .inl (aI (cf)))), (b17, .inl (cI, 18, .inl (aI (ve)))), (b18, .inl (cZ, 18, .inl (aZ (sp)))), (b19, .inl (cI, 40, .inl (aI (li))))] := hD
    refine lv_aload_n hx hb d_mo_goes_29 rfl (lv_at hl 0 rfl) ?_
    refine va_get (D := (dC, dI)) (ci := 6) (v := .int (iI (1))) (C := "OrganConsoleModel") (T := T_mo) (N := 29) hx hb htb in_mo hown hK hP 0 rfl rfl 0 (by decide) (htb _ tw_741) (fun _ h9 => h9) rfl d_mo_goes_30 ?_
    refine xi_if_ne (tgt := 40) hx hb ⟨by omega, by omega⟩ d_mo_goes_33 (by decide) (fun u_13 => ?_) (fun u_13 => ?_)
    rotate_left
    · exact absurd u_13 (by decide)
    refine lv_iconst (v := iI (0)) hx hb d_mo_goes_40 rfl ?_
    have q_14 : iI (0) = bI (x && y && z) := by
      exact bo_0 (by simp_all)
    rw [q_14]
    have q_15 : iI (1) = iI (gc x y z) := congrArg iI (by unfold gc; simp_all)
    have hP : va_P (dC, dI) vwCl [(b0, .inr (6, [.int (iI (gc x y z)), .int (iI (((n : Nat) : Int))), .ref (b1), .ref (b2), .ref (b3), .ref (b4), .ref (b5), .ref (b6), .ref (b7), .ref (b8), .int (iI (((nc : Nat) : Int))), .ref (b9), .ref (b10), .ref (b11), .ref (b12), .ref (b13), .int (bI (fo)), .int (bI (lk)), .int (iI (lv)), .int (iI (pe)), .int (iI (cu)), .ref (b14), .int (iI (fm)), .ref (b15), .ref (b16), .ref (b17), .ref (b18), .int (iI (nf)), .ref (b19)])), (b1, .inl (cI, 48, .inl (aI (fd)))), (b2, .inl (cI, 48, .inl (aI (fs)))), (b3, .inl (cI, 48, .inl (aI (fl)))), (b4, .inl (cI, 48, .inl (aI (fh)))), (b5, .inl (cZ, 48, .inl (aZ (kn)))), (b6, .inl (cI, 48, .inl (aI (ft)))), (b7, .inl (cZ, 48, .inl (aZ (tg)))), (b8, .inl (cI, 48, .inl (aI (fc)))), (b9, .inl (cI, 16, .inl (aI (fr)))), (b10, .inl (cI, 16, .inl (aI (tt)))), (b11, .inl (cI, 16, .inl (aI (sh)))), (b12, .inl (cZ, 16, .inl (aZ (tb)))), (b13, .inl (cZ, 305, .inl (aZ (dn)))), (b14, .inl (cZ, 21312, .inl (aZ (me)))), (b15, .inl (cZ, 42624, .inl (aZ (cp)))), (b16, .inl (cI, 2, .inl (aI (cf)))), (b17, .inl (cI, 18, .inl (aI (ve)))), (b18, .inl (cZ, 18, .inl (aZ (sp)))), (b19, .inl (cI, 40, .inl (aI (li))))] H := P_eq hP (congr (congrArg List.cons (congrArg (fun z9 => ((b0 : Nat), (Sum.inr (6, z9) : va_E))) (show ([.int (iI (1)), .int (iI (((n : Nat) : Int))), .ref (b1), .ref (b2), .ref (b3), .ref (b4), .ref (b5), .ref (b6), .ref (b7), .ref (b8), .int (iI (((nc : Nat) : Int))), .ref (b9), .ref (b10), .ref (b11), .ref (b12), .ref (b13), .int (bI (fo)), .int (bI (lk)), .int (iI (lv)), .int (iI (pe)), .int (iI (cu)), .ref (b14), .int (iI (fm)), .ref (b15), .ref (b16), .ref (b17), .ref (b18), .int (iI (nf)), .ref (b19)] : List Value) = [.int (iI (gc x y z)), .int (iI (((n : Nat) : Int))), .ref (b1), .ref (b2), .ref (b3), .ref (b4), .ref (b5), .ref (b6), .ref (b7), .ref (b8), .int (iI (((nc : Nat) : Int))), .ref (b9), .ref (b10), .ref (b11), .ref (b12), .ref (b13), .int (bI (fo)), .int (bI (lk)), .int (iI (lv)), .int (iI (pe)), .int (iI (cu)), .ref (b14), .int (iI (fm)), .ref (b15), .ref (b16), .ref (b17), .ref (b18), .int (iI (nf)), .ref (b19)] from congr (congrArg List.cons (congrArg Value.int q_15)) (congrArg (List.cons _) (congrArg (List.cons _) (congrArg (List.cons _) (congrArg (List.cons _) (congrArg (List.cons _) (congrArg (List.cons _) (congrArg (List.cons _) (congrArg (List.cons _) (congrArg (List.cons _) (congrArg (List.cons _) (congrArg (List.cons _) (congrArg (List.cons _) (congrArg (List.cons _) (congrArg (List.cons _) (congrArg (List.cons _) (congrArg (List.cons _) (congrArg (List.cons _) (congrArg (List.cons _) (congrArg (List.cons _) (congrArg (List.cons _) (congrArg (List.cons _) (congrArg (List.cons _) (congrArg (List.cons _) (congrArg (List.cons _) (congrArg (List.cons _) (congrArg (List.cons _) (congrArg (List.cons _) (congrArg (List.cons _) (rfl)))))))))))))))))))))))))))))))) (congrArg (List.cons _) (congrArg (List.cons _) (congrArg (List.cons _) (congrArg (List.cons _) (congrArg (List.cons _) (congrArg (List.cons _) (congrArg (List.cons _) (congrArg (List.cons _) (congrArg (List.cons _) (congrArg (List.cons _) (congrArg (List.cons _) (congrArg (List.cons _) (congrArg (List.cons _) (congrArg (List.cons _) (congrArg (List.cons _) (congrArg (List.cons _) (congrArg (List.cons _) (congrArg (List.cons _) (congrArg (List.cons _) (rfl)))))))))))))))))))))
    exact W.zret (ty := .boolean) (v := bI (x && y && z)) hx hb hr (bI_narrow _) (fun t ht hW => ⟨rfl, by rw [ht]; exact hP, hS.F ht⟩) hS.2.2 d_mo_goes_41

set_option maxHeartbeats 200000 in
set_option maxRecDepth 100000 in
theorem c_mo_isStop (l : Launch) (dC : Nat → ClassId) (dI : Nat → Nat → Nat) (cI cL cZ : ClassId) (b0 b1 b2 b3 b4 b5 b6 b7 b8 b9 b10 b11 b12 b13 b14 b15 b16 b17 b18 b19 : Nat) (th lv pe cu fm nf : Int) (n nc : Nat) (fd fs fl fh ft fc fr tt sh cf ve li : Nat → Int) (kn tg tb dn me cp sp : Nat → Bool) (fo lk : Bool) (hn : n ≤ 48) (hnc : nc ≤ 16) (hft : ∀ s, 0 ≤ ft s ∧ ft s ≤ 3) (hfc : ∀ s, 0 ≤ fc s ∧ fc s ≤ 2) (hsb : ∀ s, 0 ≤ fd s ∧ fd s < 5 ∧ -24 ≤ fs s ∧ fs s ≤ 24 ∧ 0 ≤ fl s ∧ fl s ≤ 96 ∧ 0 ≤ fh s ∧ fh s ≤ 96) (hcb : ∀ c, 0 ≤ fr c ∧ fr c < 5 ∧ 0 ≤ tt c ∧ tt c < 5 ∧ -24 ≤ sh c ∧ sh c ≤ 24) (hve : ∀ p, 0 ≤ ve p ∧ ve p ≤ 100000) (hnf : nf = -1 ∨ nf = 0 ∨ nf = 1) (hlv : 0 ≤ lv ∧ lv ≤ 7) (hcu : -1 ≤ cu ∧ cu < fm) (hpe : 0 ≤ pe ∧ pe ≤ 15) (hfm : 0 ≤ fm ∧ fm ≤ 100) (hcf : ∀ c, 0 ≤ cf c ∧ cf c ≤ 100) (hli : ∀ j, 0 ≤ li j ∧ li j ≤ 2) (a : Int) (in_a : inI a) : Met l y_mo_isStop (Cond.code y_mo_isStop prog_8_method_5_code 2 (some .boolean) :: TB) ({ frames := 0, cells := 0, slots := 0, locals := 0 }) (va_Pc [.ref (b0), .int (iI (a))] (PW dC dI [(b0, .inr (6, [.int (iI (th)), .int (iI (((n : Nat) : Int))), .ref (b1), .ref (b2), .ref (b3), .ref (b4), .ref (b5), .ref (b6), .ref (b7), .ref (b8), .int (iI (((nc : Nat) : Int))), .ref (b9), .ref (b10), .ref (b11), .ref (b12), .ref (b13), .int (bI (fo)), .int (bI (lk)), .int (iI (lv)), .int (iI (pe)), .int (iI (cu)), .ref (b14), .int (iI (fm)), .ref (b15), .ref (b16), .ref (b17), .ref (b18), .int (iI (nf)), .ref (b19)])), (b1, .inl (cI, 48, .inl (aI (fd)))), (b2, .inl (cI, 48, .inl (aI (fs)))), (b3, .inl (cI, 48, .inl (aI (fl)))), (b4, .inl (cI, 48, .inl (aI (fh)))), (b5, .inl (cZ, 48, .inl (aZ (kn)))), (b6, .inl (cI, 48, .inl (aI (ft)))), (b7, .inl (cZ, 48, .inl (aZ (tg)))), (b8, .inl (cI, 48, .inl (aI (fc)))), (b9, .inl (cI, 16, .inl (aI (fr)))), (b10, .inl (cI, 16, .inl (aI (tt)))), (b11, .inl (cI, 16, .inl (aI (sh)))), (b12, .inl (cZ, 16, .inl (aZ (tb)))), (b13, .inl (cZ, 305, .inl (aZ (dn)))), (b14, .inl (cZ, 21312, .inl (aZ (me)))), (b15, .inl (cZ, 42624, .inl (aZ (cp)))), (b16, .inl (cI, 2, .inl (aI (cf)))), (b17, .inl (cI, 18, .inl (aI (ve)))), (b18, .inl (cZ, 18, .inl (aZ (sp)))), (b19, .inl (cI, 40, .inl (aI (li))))] [(cI, .int), (cL, .long), (cZ, .boolean)])) (k2_QcV (.int (bI (decide (0 ≤ a) && decide (a < (n : Int)))))) 0 0 (fun _ => False) := by
  refine Met.ofW (cc := prog_8_method_5_code) (maxL := 2) (ret := (some .boolean)) (by decide) rfl ?_
  intro p e s m args below meth c s₁ B hml hv
  obtain ⟨ha, hP, hK⟩ := hv
  have hx := B.exec
  have hb := B.bytes
  have hr := B.returns
  have htb : ∀ w ∈ TB, w.before args s = true := fun w h => atoms_spec (ws := Cond.code y_mo_isStop prog_8_method_5_code 2 (some .boolean) :: TB) B.pre w (List.mem_cons_of_mem _ h)
  have hown : s.vm.findClass "OrganConsoleModel" = some m.cls := findClass_of_methodNamed B.named
  have hlocks := B.notSynchronized
  have hl := lv_entry ([.ref (b0), .int (iI (a))]) (n := 2) (Nat.le_of_ble_eq_true rfl)
  refine W.eq (g2 := F0 m 0 _ []) (by rw [ha]; exact lg_entry_eq m ([.ref (b0), .int (iI (a))]) 2) ?_
  generalize (lg_sl ([.ref (b0), .int (iI (a))]) ++ List.replicate (2 - (lg_sl ([.ref (b0), .int (iI (a))])).length) Slot.unset).toArray = ls at hl ⊢
  have hl : lv_has ls 2 [(0, .ref (b0)), (1, .int (iI (a)))] := hl
  obtain ⟨i1_a, i2_a⟩ := in_a
  refine lv_iload_n hx hb d_mo_isStop_0 rfl (lv_at hl 1 rfl) ?_
  refine xi_if_lt (tgt := 16) hx hb ⟨by omega, by omega⟩ d_mo_isStop_1 (by decide) (fun u_1 => ?_) (fun u_1 => ?_)
  · skip
    refine lv_iconst (v := iI (0)) hx hb d_mo_isStop_16 rfl ?_
    have q_2 : iI (0) = bI (decide (0 ≤ a) && decide (a < (n : Int))) := by
      exact bo_0 (by first | (rw [decide_eq_false (show ¬ 0 ≤ a by omega)]; rfl) | (rw [decide_eq_false (show ¬ a < (n : Int) by omega)]; simp))
    rw [q_2]
    exact W.zret (ty := .boolean) (v := bI (decide (0 ≤ a) && decide (a < (n : Int)))) hx hb hr (bI_narrow _) (fun t ht hW => ⟨rfl, ht⟩) t_nil d_mo_isStop_17
  · skip
    refine lv_iload_n hx hb d_mo_isStop_4 rfl (lv_at hl 1 rfl) ?_
    refine lv_aload_n hx hb d_mo_isStop_5 rfl (lv_at hl 0 rfl) ?_
    refine va_get (D := (dC, dI)) (ci := 6) (v := .int (iI (((n : Nat) : Int)))) (C := "OrganConsoleModel") (T := T_mo) (N := 29) hx hb htb in_mo hown hK hP 0 rfl rfl 1 (by decide) (htb _ tw_742) (fun _ h9 => h9) rfl d_mo_isStop_6 ?_
    refine xi_icmp_ge (tgt := 16) hx hb ⟨by omega, by omega⟩ ⟨by omega, by omega⟩ d_mo_isStop_9 (by decide) (fun u_3 => ?_) (fun u_3 => ?_)
    · skip
      refine lv_iconst (v := iI (0)) hx hb d_mo_isStop_16 rfl ?_
      have q_4 : iI (0) = bI (decide (0 ≤ a) && decide (a < (n : Int))) := by
        exact bo_0 (by first | (rw [decide_eq_false (show ¬ 0 ≤ a by omega)]; rfl) | (rw [decide_eq_false (show ¬ a < (n : Int) by omega)]; simp))
      rw [q_4]
      exact W.zret (ty := .boolean) (v := bI (decide (0 ≤ a) && decide (a < (n : Int)))) hx hb hr (bI_narrow _) (fun t ht hW => ⟨rfl, ht⟩) t_nil d_mo_isStop_17
    · skip
      refine lv_iconst (v := iI (1)) hx hb d_mo_isStop_12 rfl ?_
      refine lv_goto (tgt := 17) hx hb d_mo_isStop_13 (by decide) ?_
      have q_5 : iI (1) = bI (decide (0 ≤ a) && decide (a < (n : Int))) := by
        exact bo_1 (by rw [decide_eq_true (by omega), decide_eq_true (by omega)]; rfl)
      rw [q_5]
      exact W.zret (ty := .boolean) (v := bI (decide (0 ≤ a) && decide (a < (n : Int)))) hx hb hr (bI_narrow _) (fun t ht hW => ⟨rfl, ht⟩) t_nil d_mo_isStop_17

set_option maxHeartbeats 200000 in
set_option maxRecDepth 100000 in
theorem c_mo_isSet (l : Launch) (dC : Nat → ClassId) (dI : Nat → Nat → Nat) (cI cL cZ : ClassId) (b0 b1 b2 b3 b4 b5 b6 b7 b8 b9 b10 b11 b12 b13 b14 b15 b16 b17 b18 b19 : Nat) (th lv pe cu fm nf : Int) (n nc : Nat) (fd fs fl fh ft fc fr tt sh cf ve li : Nat → Int) (kn tg tb dn me cp sp : Nat → Bool) (fo lk : Bool) (hn : n ≤ 48) (hnc : nc ≤ 16) (hft : ∀ s, 0 ≤ ft s ∧ ft s ≤ 3) (hfc : ∀ s, 0 ≤ fc s ∧ fc s ≤ 2) (hsb : ∀ s, 0 ≤ fd s ∧ fd s < 5 ∧ -24 ≤ fs s ∧ fs s ≤ 24 ∧ 0 ≤ fl s ∧ fl s ≤ 96 ∧ 0 ≤ fh s ∧ fh s ≤ 96) (hcb : ∀ c, 0 ≤ fr c ∧ fr c < 5 ∧ 0 ≤ tt c ∧ tt c < 5 ∧ -24 ≤ sh c ∧ sh c ≤ 24) (hve : ∀ p, 0 ≤ ve p ∧ ve p ≤ 100000) (hnf : nf = -1 ∨ nf = 0 ∨ nf = 1) (hlv : 0 ≤ lv ∧ lv ≤ 7) (hcu : -1 ≤ cu ∧ cu < fm) (hpe : 0 ≤ pe ∧ pe ≤ 15) (hfm : 0 ≤ fm ∧ fm ≤ 100) (hcf : ∀ c, 0 ≤ cf c ∧ cf c ≤ 100) (hli : ∀ j, 0 ≤ li j ∧ li j ≤ 2) (z : Int) (in_z : inI z) (q : Int) (in_q : inI q) : Met l y_mo_isSet (Cond.code y_mo_isSet prog_8_method_12_code 3 (some .boolean) :: TB) ({ frames := 1, cells := 0, slots := 0, locals := 22 }) (va_Pc [.ref (b0), .int (iI (z)), .int (iI (q))] (PW dC dI [(b0, .inr (6, [.int (iI (th)), .int (iI (((n : Nat) : Int))), .ref (b1), .ref (b2), .ref (b3), .ref (b4), .ref (b5), .ref (b6), .ref (b7), .ref (b8), .int (iI (((nc : Nat) : Int))), .ref (b9), .ref (b10), .ref (b11), .ref (b12), .ref (b13), .int (bI (fo)), .int (bI (lk)), .int (iI (lv)), .int (iI (pe)), .int (iI (cu)), .ref (b14), .int (iI (fm)), .ref (b15), .ref (b16), .ref (b17), .ref (b18), .int (iI (nf)), .ref (b19)])), (b1, .inl (cI, 48, .inl (aI (fd)))), (b2, .inl (cI, 48, .inl (aI (fs)))), (b3, .inl (cI, 48, .inl (aI (fl)))), (b4, .inl (cI, 48, .inl (aI (fh)))), (b5, .inl (cZ, 48, .inl (aZ (kn)))), (b6, .inl (cI, 48, .inl (aI (ft)))), (b7, .inl (cZ, 48, .inl (aZ (tg)))), (b8, .inl (cI, 48, .inl (aI (fc)))), (b9, .inl (cI, 16, .inl (aI (fr)))), (b10, .inl (cI, 16, .inl (aI (tt)))), (b11, .inl (cI, 16, .inl (aI (sh)))), (b12, .inl (cZ, 16, .inl (aZ (tb)))), (b13, .inl (cZ, 305, .inl (aZ (dn)))), (b14, .inl (cZ, 21312, .inl (aZ (me)))), (b15, .inl (cZ, 42624, .inl (aZ (cp)))), (b16, .inl (cI, 2, .inl (aI (cf)))), (b17, .inl (cI, 18, .inl (aI (ve)))), (b18, .inl (cZ, 18, .inl (aZ (sp)))), (b19, .inl (cI, 40, .inl (aI (li))))] [(cI, .int), (cL, .long), (cZ, .boolean)])) (k2_QcV (.int (bI (decide (0 ≤ q) && decide (q < pis z fm))))) 0 0 (fun _ => False) := by
  refine Met.ofW (cc := prog_8_method_12_code) (maxL := 3) (ret := (some .boolean)) (by decide) rfl ?_
  intro p e s m args below meth c s₁ B hml hv
  obtain ⟨ha, hP, hK⟩ := hv
  have hx := B.exec
  have hb := B.bytes
  have hr := B.returns
  have htb : ∀ w ∈ TB, w.before args s = true := fun w h => atoms_spec (ws := Cond.code y_mo_isSet prog_8_method_12_code 3 (some .boolean) :: TB) B.pre w (List.mem_cons_of_mem _ h)
  have hown : s.vm.findClass "OrganConsoleModel" = some m.cls := findClass_of_methodNamed B.named
  have hlocks := B.notSynchronized
  have hl := lv_entry ([.ref (b0), .int (iI (z)), .int (iI (q))]) (n := 3) (Nat.le_of_ble_eq_true rfl)
  refine W.eq (g2 := F0 m 0 _ []) (by rw [ha]; exact lg_entry_eq m ([.ref (b0), .int (iI (z)), .int (iI (q))]) 3) ?_
  generalize (lg_sl ([.ref (b0), .int (iI (z)), .int (iI (q))]) ++ List.replicate (3 - (lg_sl ([.ref (b0), .int (iI (z)), .int (iI (q))])).length) Slot.unset).toArray = ls at hl ⊢
  have hl : lv_has ls 3 [(0, .ref (b0)), (1, .int (iI (z))), (2, .int (iI (q)))] := hl
  obtain ⟨i1_z, i2_z⟩ := in_z
  obtain ⟨i1_q, i2_q⟩ := in_q
  refine lv_iload_n hx hb d_mo_isSet_0 rfl (lv_at hl 1 rfl) ?_
  refine xi_if_ne (tgt := 14) hx hb ⟨by omega, by omega⟩ d_mo_isSet_1 (by decide) (fun u_1 => ?_) (fun u_1 => ?_)
  · skip
    refine lv_iload_n hx hb d_mo_isSet_14 rfl (lv_at hl 1 rfl) ?_
    refine lv_iconst (v := iI (1)) hx hb d_mo_isSet_15 rfl ?_
    refine xi_icmp_ne (tgt := 29) hx hb ⟨by omega, by omega⟩ ⟨by omega, by omega⟩ d_mo_isSet_16 (by decide) (fun u_2 => ?_) (fun u_2 => ?_)
    · skip
      refine lv_iload_n hx hb d_mo_isSet_29 rfl (lv_at hl 1 rfl) ?_
      refine lv_iconst (v := iI (2)) hx hb d_mo_isSet_30 rfl ?_
      refine xi_icmp_ne (tgt := 50) hx hb ⟨by omega, by omega⟩ ⟨by omega, by omega⟩ d_mo_isSet_31 (by decide) (fun u_3 => ?_) (fun u_3 => ?_)
      · skip
        refine lv_iconst (v := iI (0)) hx hb d_mo_isSet_50 rfl ?_
        have q_4 : iI (0) = bI (decide (0 ≤ q) && decide (q < pis z fm)) := by
          exact bo_0 (by simp only [Bool.and_eq_false_iff, decide_eq_false_iff_not] at *; unfold pis; (repeat' split) <;> omega)
        rw [q_4]
        exact W.zret (ty := .boolean) (v := bI (decide (0 ≤ q) && decide (q < pis z fm))) hx hb hr (bI_narrow _) (fun t ht hW => ⟨rfl, ht⟩) t_nil d_mo_isSet_51
      · skip
        refine lv_iload_n hx hb d_mo_isSet_34 rfl (lv_at hl 2 rfl) ?_
        refine xi_if_lt (tgt := 50) hx hb ⟨by omega, by omega⟩ d_mo_isSet_35 (by decide) (fun u_5 => ?_) (fun u_5 => ?_)
        · skip
          refine lv_iconst (v := iI (0)) hx hb d_mo_isSet_50 rfl ?_
          have q_6 : iI (0) = bI (decide (0 ≤ q) && decide (q < pis z fm)) := by
            exact bo_0 (by simp only [Bool.and_eq_false_iff, decide_eq_false_iff_not] at *; unfold pis; (repeat' split) <;> omega)
          rw [q_6]
          exact W.zret (ty := .boolean) (v := bI (decide (0 ≤ q) && decide (q < pis z fm))) hx hb hr (bI_narrow _) (fun t ht hW => ⟨rfl, ht⟩) t_nil d_mo_isSet_51
        · skip
          refine lv_iload_n hx hb d_mo_isSet_38 rfl (lv_at hl 2 rfl) ?_
          refine lv_aload_n hx hb d_mo_isSet_39 rfl (lv_at hl 0 rfl) ?_
          refine va_get (D := (dC, dI)) (ci := 6) (v := .int (iI (fm))) (C := "OrganConsoleModel") (T := T_mo) (N := 29) hx hb htb in_mo hown hK hP 0 rfl rfl 22 (by decide) (htb _ tw_763) (fun _ h9 => h9) rfl d_mo_isSet_40 ?_
          refine xi_icmp_ge (tgt := 50) hx hb ⟨by omega, by omega⟩ ⟨by omega, by omega⟩ d_mo_isSet_43 (by decide) (fun u_7 => ?_) (fun u_7 => ?_)
          · skip
            refine lv_iconst (v := iI (0)) hx hb d_mo_isSet_50 rfl ?_
            have q_8 : iI (0) = bI (decide (0 ≤ q) && decide (q < pis z fm)) := by
              exact bo_0 (by simp only [Bool.and_eq_false_iff, decide_eq_false_iff_not] at *; unfold pis; (repeat' split) <;> omega)
            rw [q_8]
            exact W.zret (ty := .boolean) (v := bI (decide (0 ≤ q) && decide (q < pis z fm))) hx hb hr (bI_narrow _) (fun t ht hW => ⟨rfl, ht⟩) t_nil d_mo_isSet_51
          · skip
            refine lv_iconst (v := iI (1)) hx hb d_mo_isSet_46 rfl ?_
            refine lv_goto (tgt := 51) hx hb d_mo_isSet_47 (by decide) ?_
            have q_9 : iI (1) = bI (decide (0 ≤ q) && decide (q < pis z fm)) := by
              exact bo_1 (by simp only [Bool.and_eq_true, decide_eq_true_eq] at *; unfold pis; refine ⟨by omega, ?_⟩; (repeat' split) <;> omega)
            rw [q_9]
            exact W.zret (ty := .boolean) (v := bI (decide (0 ≤ q) && decide (q < pis z fm))) hx hb hr (bI_narrow _) (fun t ht hW => ⟨rfl, ht⟩) t_nil d_mo_isSet_51
    · skip
      refine lv_iload_n hx hb d_mo_isSet_19 rfl (lv_at hl 2 rfl) ?_
      refine lv_iconst (v := iI (0)) hx hb d_mo_isSet_20 rfl ?_
      refine lv_bipush (v := iI (24)) hx hb d_mo_isSet_21 (by decide +kernel) ?_
      refine pcS hx hb hml hown htb (c_mo_within l q 0 24 ⟨by omega, by omega⟩ ⟨by omega, by omega⟩ ⟨by omega, by omega⟩) tw_837 tw_838 tw_40 tw_839 3 (by decide +kernel) rfl rfl ⟨Nat.le_of_ble_eq_true rfl, Nat.le_of_ble_eq_true rfl⟩ ⟨Nat.zero_le _, Nat.zero_le _⟩ [.int (iI (q)), .int (iI (0)), .int (iI (24))] ⟨fun _ _ _ _ q => q, fun U _ _ => ⟨rfl, trivial⟩⟩ rfl hl.1 rfl (Nat.le_of_ble_eq_true rfl) d_mo_isSet_23 ?_
      refine xz_if_ne (tgt := 46) hx hb d_mo_isSet_26 (by decide) (fun u_10 => ?_) (fun u_10 => ?_)
      · skip
        refine lv_iconst (v := iI (1)) hx hb d_mo_isSet_46 rfl ?_
        refine lv_goto (tgt := 51) hx hb d_mo_isSet_47 (by decide) ?_
        have q_11 : iI (1) = bI (decide (0 ≤ q) && decide (q < pis z fm)) := by
          exact bo_1 (by simp only [Bool.and_eq_true, decide_eq_true_eq] at *; unfold pis; refine ⟨by omega, ?_⟩; (repeat' split) <;> omega)
        rw [q_11]
        exact W.zret (ty := .boolean) (v := bI (decide (0 ≤ q) && decide (q < pis z fm))) hx hb hr (bI_narrow _) (fun t ht hW => ⟨rfl, ht⟩) t_nil d_mo_isSet_51
      · skip
        refine lv_iload_n hx hb d_mo_isSet_29 rfl (lv_at hl 1 rfl) ?_
        refine lv_iconst (v := iI (2)) hx hb d_mo_isSet_30 rfl ?_
        refine xi_icmp_ne (tgt := 50) hx hb ⟨by omega, by omega⟩ ⟨by omega, by omega⟩ d_mo_isSet_31 (by decide) (fun u_12 => ?_) (fun u_12 => ?_)
        · skip
          refine lv_iconst (v := iI (0)) hx hb d_mo_isSet_50 rfl ?_
          have q_13 : iI (0) = bI (decide (0 ≤ q) && decide (q < pis z fm)) := by
            exact bo_0 (by simp only [Bool.and_eq_false_iff, decide_eq_false_iff_not] at *; unfold pis; (repeat' split) <;> omega)
          rw [q_13]
          exact W.zret (ty := .boolean) (v := bI (decide (0 ≤ q) && decide (q < pis z fm))) hx hb hr (bI_narrow _) (fun t ht hW => ⟨rfl, ht⟩) t_nil d_mo_isSet_51
        · skip
          refine lv_iload_n hx hb d_mo_isSet_34 rfl (lv_at hl 2 rfl) ?_
          refine xi_if_lt (tgt := 50) hx hb ⟨by omega, by omega⟩ d_mo_isSet_35 (by decide) (fun u_14 => ?_) (fun u_14 => ?_)
          · skip
            refine lv_iconst (v := iI (0)) hx hb d_mo_isSet_50 rfl ?_
            have q_15 : iI (0) = bI (decide (0 ≤ q) && decide (q < pis z fm)) := by
              exact bo_0 (by simp only [Bool.and_eq_false_iff, decide_eq_false_iff_not] at *; unfold pis; (repeat' split) <;> omega)
            rw [q_15]
            exact W.zret (ty := .boolean) (v := bI (decide (0 ≤ q) && decide (q < pis z fm))) hx hb hr (bI_narrow _) (fun t ht hW => ⟨rfl, ht⟩) t_nil d_mo_isSet_51
          · skip
            refine lv_iload_n hx hb d_mo_isSet_38 rfl (lv_at hl 2 rfl) ?_
            refine lv_aload_n hx hb d_mo_isSet_39 rfl (lv_at hl 0 rfl) ?_
            refine va_get (D := (dC, dI)) (ci := 6) (v := .int (iI (fm))) (C := "OrganConsoleModel") (T := T_mo) (N := 29) hx hb htb in_mo hown hK hP 0 rfl rfl 22 (by decide) (htb _ tw_763) (fun _ h9 => h9) rfl d_mo_isSet_40 ?_
            refine xi_icmp_ge (tgt := 50) hx hb ⟨by omega, by omega⟩ ⟨by omega, by omega⟩ d_mo_isSet_43 (by decide) (fun u_16 => ?_) (fun u_16 => ?_)
            · skip
              refine lv_iconst (v := iI (0)) hx hb d_mo_isSet_50 rfl ?_
              have q_17 : iI (0) = bI (decide (0 ≤ q) && decide (q < pis z fm)) := by
                exact bo_0 (by simp only [Bool.and_eq_false_iff, decide_eq_false_iff_not] at *; unfold pis; (repeat' split) <;> omega)
              rw [q_17]
              exact W.zret (ty := .boolean) (v := bI (decide (0 ≤ q) && decide (q < pis z fm))) hx hb hr (bI_narrow _) (fun t ht hW => ⟨rfl, ht⟩) t_nil d_mo_isSet_51
            · skip
              refine lv_iconst (v := iI (1)) hx hb d_mo_isSet_46 rfl ?_
              refine lv_goto (tgt := 51) hx hb d_mo_isSet_47 (by decide) ?_
              have q_18 : iI (1) = bI (decide (0 ≤ q) && decide (q < pis z fm)) := by
                exact bo_1 (by simp only [Bool.and_eq_true, decide_eq_true_eq] at *; unfold pis; refine ⟨by omega, ?_⟩; (repeat' split) <;> omega)
              rw [q_18]
              exact W.zret (ty := .boolean) (v := bI (decide (0 ≤ q) && decide (q < pis z fm))) hx hb hr (bI_narrow _) (fun t ht hW => ⟨rfl, ht⟩) t_nil d_mo_isSet_51
  · skip
    refine lv_iload_n hx hb d_mo_isSet_4 rfl (lv_at hl 2 rfl) ?_
    refine lv_iconst (v := iI (0)) hx hb d_mo_isSet_5 rfl ?_
    refine lv_bipush (v := iI (15)) hx hb d_mo_isSet_6 (by decide +kernel) ?_
    refine pcS hx hb hml hown htb (c_mo_within l q 0 15 ⟨by omega, by omega⟩ ⟨by omega, by omega⟩ ⟨by omega, by omega⟩) tw_837 tw_838 tw_40 tw_839 3 (by decide +kernel) rfl rfl ⟨Nat.le_of_ble_eq_true rfl, Nat.le_of_ble_eq_true rfl⟩ ⟨Nat.zero_le _, Nat.zero_le _⟩ [.int (iI (q)), .int (iI (0)), .int (iI (15))] ⟨fun _ _ _ _ q => q, fun U _ _ => ⟨rfl, trivial⟩⟩ rfl hl.1 rfl (Nat.le_of_ble_eq_true rfl) d_mo_isSet_8 ?_
    refine xz_if_ne (tgt := 46) hx hb d_mo_isSet_11 (by decide) (fun u_19 => ?_) (fun u_19 => ?_)
    · skip
      refine lv_iconst (v := iI (1)) hx hb d_mo_isSet_46 rfl ?_
      refine lv_goto (tgt := 51) hx hb d_mo_isSet_47 (by decide) ?_
      have q_20 : iI (1) = bI (decide (0 ≤ q) && decide (q < pis z fm)) := by
        exact bo_1 (by simp only [Bool.and_eq_true, decide_eq_true_eq] at *; unfold pis; refine ⟨by omega, ?_⟩; (repeat' split) <;> omega)
      rw [q_20]
      exact W.zret (ty := .boolean) (v := bI (decide (0 ≤ q) && decide (q < pis z fm))) hx hb hr (bI_narrow _) (fun t ht hW => ⟨rfl, ht⟩) t_nil d_mo_isSet_51
    · skip
      refine lv_iload_n hx hb d_mo_isSet_14 rfl (lv_at hl 1 rfl) ?_
      refine lv_iconst (v := iI (1)) hx hb d_mo_isSet_15 rfl ?_
      refine xi_icmp_ne (tgt := 29) hx hb ⟨by omega, by omega⟩ ⟨by omega, by omega⟩ d_mo_isSet_16 (by decide) (fun u_21 => ?_) (fun u_21 => ?_)
      · skip
        refine lv_iload_n hx hb d_mo_isSet_29 rfl (lv_at hl 1 rfl) ?_
        refine lv_iconst (v := iI (2)) hx hb d_mo_isSet_30 rfl ?_
        refine xi_icmp_ne (tgt := 50) hx hb ⟨by omega, by omega⟩ ⟨by omega, by omega⟩ d_mo_isSet_31 (by decide) (fun u_22 => ?_) (fun u_22 => ?_)
        · skip
          refine lv_iconst (v := iI (0)) hx hb d_mo_isSet_50 rfl ?_
          have q_23 : iI (0) = bI (decide (0 ≤ q) && decide (q < pis z fm)) := by
            exact bo_0 (by simp only [Bool.and_eq_false_iff, decide_eq_false_iff_not] at *; unfold pis; (repeat' split) <;> omega)
          rw [q_23]
          exact W.zret (ty := .boolean) (v := bI (decide (0 ≤ q) && decide (q < pis z fm))) hx hb hr (bI_narrow _) (fun t ht hW => ⟨rfl, ht⟩) t_nil d_mo_isSet_51
        · skip
          refine lv_iload_n hx hb d_mo_isSet_34 rfl (lv_at hl 2 rfl) ?_
          refine xi_if_lt (tgt := 50) hx hb ⟨by omega, by omega⟩ d_mo_isSet_35 (by decide) (fun u_24 => ?_) (fun u_24 => ?_)
          · skip
            refine lv_iconst (v := iI (0)) hx hb d_mo_isSet_50 rfl ?_
            have q_25 : iI (0) = bI (decide (0 ≤ q) && decide (q < pis z fm)) := by
              exact bo_0 (by simp only [Bool.and_eq_false_iff, decide_eq_false_iff_not] at *; unfold pis; (repeat' split) <;> omega)
            rw [q_25]
            exact W.zret (ty := .boolean) (v := bI (decide (0 ≤ q) && decide (q < pis z fm))) hx hb hr (bI_narrow _) (fun t ht hW => ⟨rfl, ht⟩) t_nil d_mo_isSet_51
          · skip
            refine lv_iload_n hx hb d_mo_isSet_38 rfl (lv_at hl 2 rfl) ?_
            refine lv_aload_n hx hb d_mo_isSet_39 rfl (lv_at hl 0 rfl) ?_
            refine va_get (D := (dC, dI)) (ci := 6) (v := .int (iI (fm))) (C := "OrganConsoleModel") (T := T_mo) (N := 29) hx hb htb in_mo hown hK hP 0 rfl rfl 22 (by decide) (htb _ tw_763) (fun _ h9 => h9) rfl d_mo_isSet_40 ?_
            refine xi_icmp_ge (tgt := 50) hx hb ⟨by omega, by omega⟩ ⟨by omega, by omega⟩ d_mo_isSet_43 (by decide) (fun u_26 => ?_) (fun u_26 => ?_)
            · skip
              refine lv_iconst (v := iI (0)) hx hb d_mo_isSet_50 rfl ?_
              have q_27 : iI (0) = bI (decide (0 ≤ q) && decide (q < pis z fm)) := by
                exact bo_0 (by simp only [Bool.and_eq_false_iff, decide_eq_false_iff_not] at *; unfold pis; (repeat' split) <;> omega)
              rw [q_27]
              exact W.zret (ty := .boolean) (v := bI (decide (0 ≤ q) && decide (q < pis z fm))) hx hb hr (bI_narrow _) (fun t ht hW => ⟨rfl, ht⟩) t_nil d_mo_isSet_51
            · skip
              refine lv_iconst (v := iI (1)) hx hb d_mo_isSet_46 rfl ?_
              refine lv_goto (tgt := 51) hx hb d_mo_isSet_47 (by decide) ?_
              have q_28 : iI (1) = bI (decide (0 ≤ q) && decide (q < pis z fm)) := by
                exact bo_1 (by simp only [Bool.and_eq_true, decide_eq_true_eq] at *; unfold pis; refine ⟨by omega, ?_⟩; (repeat' split) <;> omega)
              rw [q_28]
              exact W.zret (ty := .boolean) (v := bI (decide (0 ≤ q) && decide (q < pis z fm))) hx hb hr (bI_narrow _) (fun t ht hW => ⟨rfl, ht⟩) t_nil d_mo_isSet_51
      · skip
        refine lv_iload_n hx hb d_mo_isSet_19 rfl (lv_at hl 2 rfl) ?_
        refine lv_iconst (v := iI (0)) hx hb d_mo_isSet_20 rfl ?_
        refine lv_bipush (v := iI (24)) hx hb d_mo_isSet_21 (by decide +kernel) ?_
        refine pcS hx hb hml hown htb (c_mo_within l q 0 24 ⟨by omega, by omega⟩ ⟨by omega, by omega⟩ ⟨by omega, by omega⟩) tw_837 tw_838 tw_40 tw_839 3 (by decide +kernel) rfl rfl ⟨Nat.le_of_ble_eq_true rfl, Nat.le_of_ble_eq_true rfl⟩ ⟨Nat.zero_le _, Nat.zero_le _⟩ [.int (iI (q)), .int (iI (0)), .int (iI (24))] ⟨fun _ _ _ _ q => q, fun U _ _ => ⟨rfl, trivial⟩⟩ rfl hl.1 rfl (Nat.le_of_ble_eq_true rfl) d_mo_isSet_23 ?_
        refine xz_if_ne (tgt := 46) hx hb d_mo_isSet_26 (by decide) (fun u_29 => ?_) (fun u_29 => ?_)
        · skip
          refine lv_iconst (v := iI (1)) hx hb d_mo_isSet_46 rfl ?_
          refine lv_goto (tgt := 51) hx hb d_mo_isSet_47 (by decide) ?_
          have q_30 : iI (1) = bI (decide (0 ≤ q) && decide (q < pis z fm)) := by
            exact bo_1 (by simp only [Bool.and_eq_true, decide_eq_true_eq] at *; unfold pis; refine ⟨by omega, ?_⟩; (repeat' split) <;> omega)
          rw [q_30]
          exact W.zret (ty := .boolean) (v := bI (decide (0 ≤ q) && decide (q < pis z fm))) hx hb hr (bI_narrow _) (fun t ht hW => ⟨rfl, ht⟩) t_nil d_mo_isSet_51
        · skip
          refine lv_iload_n hx hb d_mo_isSet_29 rfl (lv_at hl 1 rfl) ?_
          refine lv_iconst (v := iI (2)) hx hb d_mo_isSet_30 rfl ?_
          refine xi_icmp_ne (tgt := 50) hx hb ⟨by omega, by omega⟩ ⟨by omega, by omega⟩ d_mo_isSet_31 (by decide) (fun u_31 => ?_) (fun u_31 => ?_)
          · skip
            refine lv_iconst (v := iI (0)) hx hb d_mo_isSet_50 rfl ?_
            have q_32 : iI (0) = bI (decide (0 ≤ q) && decide (q < pis z fm)) := by
              exact bo_0 (by simp only [Bool.and_eq_false_iff, decide_eq_false_iff_not] at *; unfold pis; (repeat' split) <;> omega)
            rw [q_32]
            exact W.zret (ty := .boolean) (v := bI (decide (0 ≤ q) && decide (q < pis z fm))) hx hb hr (bI_narrow _) (fun t ht hW => ⟨rfl, ht⟩) t_nil d_mo_isSet_51
          · skip
            refine lv_iload_n hx hb d_mo_isSet_34 rfl (lv_at hl 2 rfl) ?_
            refine xi_if_lt (tgt := 50) hx hb ⟨by omega, by omega⟩ d_mo_isSet_35 (by decide) (fun u_33 => ?_) (fun u_33 => ?_)
            · skip
              refine lv_iconst (v := iI (0)) hx hb d_mo_isSet_50 rfl ?_
              have q_34 : iI (0) = bI (decide (0 ≤ q) && decide (q < pis z fm)) := by
                exact bo_0 (by simp only [Bool.and_eq_false_iff, decide_eq_false_iff_not] at *; unfold pis; (repeat' split) <;> omega)
              rw [q_34]
              exact W.zret (ty := .boolean) (v := bI (decide (0 ≤ q) && decide (q < pis z fm))) hx hb hr (bI_narrow _) (fun t ht hW => ⟨rfl, ht⟩) t_nil d_mo_isSet_51
            · skip
              refine lv_iload_n hx hb d_mo_isSet_38 rfl (lv_at hl 2 rfl) ?_
              refine lv_aload_n hx hb d_mo_isSet_39 rfl (lv_at hl 0 rfl) ?_
              refine va_get (D := (dC, dI)) (ci := 6) (v := .int (iI (fm))) (C := "OrganConsoleModel") (T := T_mo) (N := 29) hx hb htb in_mo hown hK hP 0 rfl rfl 22 (by decide) (htb _ tw_763) (fun _ h9 => h9) rfl d_mo_isSet_40 ?_
              refine xi_icmp_ge (tgt := 50) hx hb ⟨by omega, by omega⟩ ⟨by omega, by omega⟩ d_mo_isSet_43 (by decide) (fun u_35 => ?_) (fun u_35 => ?_)
              · skip
                refine lv_iconst (v := iI (0)) hx hb d_mo_isSet_50 rfl ?_
                have q_36 : iI (0) = bI (decide (0 ≤ q) && decide (q < pis z fm)) := by
                  exact bo_0 (by simp only [Bool.and_eq_false_iff, decide_eq_false_iff_not] at *; unfold pis; (repeat' split) <;> omega)
                rw [q_36]
                exact W.zret (ty := .boolean) (v := bI (decide (0 ≤ q) && decide (q < pis z fm))) hx hb hr (bI_narrow _) (fun t ht hW => ⟨rfl, ht⟩) t_nil d_mo_isSet_51
              · skip
                refine lv_iconst (v := iI (1)) hx hb d_mo_isSet_46 rfl ?_
                refine lv_goto (tgt := 51) hx hb d_mo_isSet_47 (by decide) ?_
                have q_37 : iI (1) = bI (decide (0 ≤ q) && decide (q < pis z fm)) := by
                  exact bo_1 (by simp only [Bool.and_eq_true, decide_eq_true_eq] at *; unfold pis; refine ⟨by omega, ?_⟩; (repeat' split) <;> omega)
                rw [q_37]
                exact W.zret (ty := .boolean) (v := bI (decide (0 ≤ q) && decide (q < pis z fm))) hx hb hr (bI_narrow _) (fun t ht hW => ⟨rfl, ht⟩) t_nil d_mo_isSet_51

set_option maxHeartbeats 200000 in
set_option maxRecDepth 100000 in
theorem c_mo_place (l : Launch) (dC : Nat → ClassId) (dI : Nat → Nat → Nat) (cI cL cZ : ClassId) (b0 b1 b2 b3 b4 b5 b6 b7 b8 b9 b10 b11 b12 b13 b14 b15 b16 b17 b18 b19 : Nat) (th lv pe cu fm nf : Int) (n nc : Nat) (fd fs fl fh ft fc fr tt sh cf ve li : Nat → Int) (kn tg tb dn me cp sp : Nat → Bool) (fo lk : Bool) (hn : n ≤ 48) (hnc : nc ≤ 16) (hft : ∀ s, 0 ≤ ft s ∧ ft s ≤ 3) (hfc : ∀ s, 0 ≤ fc s ∧ fc s ≤ 2) (hsb : ∀ s, 0 ≤ fd s ∧ fd s < 5 ∧ -24 ≤ fs s ∧ fs s ≤ 24 ∧ 0 ≤ fl s ∧ fl s ≤ 96 ∧ 0 ≤ fh s ∧ fh s ≤ 96) (hcb : ∀ c, 0 ≤ fr c ∧ fr c < 5 ∧ 0 ≤ tt c ∧ tt c < 5 ∧ -24 ≤ sh c ∧ sh c ≤ 24) (hve : ∀ p, 0 ≤ ve p ∧ ve p ≤ 100000) (hnf : nf = -1 ∨ nf = 0 ∨ nf = 1) (hlv : 0 ≤ lv ∧ lv ≤ 7) (hcu : -1 ≤ cu ∧ cu < fm) (hpe : 0 ≤ pe ∧ pe ≤ 15) (hfm : 0 ≤ fm ∧ fm ≤ 100) (hcf : ∀ c, 0 ≤ cf c ∧ cf c ≤ 100) (hli : ∀ j, 0 ≤ li j ∧ li j ≤ 2) (z : Int) (in_z : inI z) (q : Int) : Met l y_mo_place (Cond.code y_mo_place prog_8_method_13_code 3 (some .int) :: TB) ({ frames := 0, cells := 0, slots := 0, locals := 0 }) (va_Pc [.ref (b0), .int (iI (z)), .int (iI (q))] (PW dC dI [(b0, .inr (6, [.int (iI (th)), .int (iI (((n : Nat) : Int))), .ref (b1), .ref (b2), .ref (b3), .ref (b4), .ref (b5), .ref (b6), .ref (b7), .ref (b8), .int (iI (((nc : Nat) : Int))), .ref (b9), .ref (b10), .ref (b11), .ref (b12), .ref (b13), .int (bI (fo)), .int (bI (lk)), .int (iI (lv)), .int (iI (pe)), .int (iI (cu)), .ref (b14), .int (iI (fm)), .ref (b15), .ref (b16), .ref (b17), .ref (b18), .int (iI (nf)), .ref (b19)])), (b1, .inl (cI, 48, .inl (aI (fd)))), (b2, .inl (cI, 48, .inl (aI (fs)))), (b3, .inl (cI, 48, .inl (aI (fl)))), (b4, .inl (cI, 48, .inl (aI (fh)))), (b5, .inl (cZ, 48, .inl (aZ (kn)))), (b6, .inl (cI, 48, .inl (aI (ft)))), (b7, .inl (cZ, 48, .inl (aZ (tg)))), (b8, .inl (cI, 48, .inl (aI (fc)))), (b9, .inl (cI, 16, .inl (aI (fr)))), (b10, .inl (cI, 16, .inl (aI (tt)))), (b11, .inl (cI, 16, .inl (aI (sh)))), (b12, .inl (cZ, 16, .inl (aZ (tb)))), (b13, .inl (cZ, 305, .inl (aZ (dn)))), (b14, .inl (cZ, 21312, .inl (aZ (me)))), (b15, .inl (cZ, 42624, .inl (aZ (cp)))), (b16, .inl (cI, 2, .inl (aI (cf)))), (b17, .inl (cI, 18, .inl (aI (ve)))), (b18, .inl (cZ, 18, .inl (aZ (sp)))), (b19, .inl (cI, 40, .inl (aI (li))))] [(cI, .int), (cL, .long), (cZ, .boolean)])) (k2_QcV (.int (iI (plc lv z q)))) 0 0 (fun _ => False) := by
  refine Met.ofW (cc := prog_8_method_13_code) (maxL := 3) (ret := (some .int)) (by decide) rfl ?_
  intro p e s m args below meth c s₁ B hml hv
  obtain ⟨ha, hP, hK⟩ := hv
  have hx := B.exec
  have hb := B.bytes
  have hr := B.returns
  have htb : ∀ w ∈ TB, w.before args s = true := fun w h => atoms_spec (ws := Cond.code y_mo_place prog_8_method_13_code 3 (some .int) :: TB) B.pre w (List.mem_cons_of_mem _ h)
  have hown : s.vm.findClass "OrganConsoleModel" = some m.cls := findClass_of_methodNamed B.named
  have hlocks := B.notSynchronized
  have hl := lv_entry ([.ref (b0), .int (iI (z)), .int (iI (q))]) (n := 3) (Nat.le_of_ble_eq_true rfl)
  refine W.eq (g2 := F0 m 0 _ []) (by rw [ha]; exact lg_entry_eq m ([.ref (b0), .int (iI (z)), .int (iI (q))]) 3) ?_
  generalize (lg_sl ([.ref (b0), .int (iI (z)), .int (iI (q))]) ++ List.replicate (3 - (lg_sl ([.ref (b0), .int (iI (z)), .int (iI (q))])).length) Slot.unset).toArray = ls at hl ⊢
  have hl : lv_has ls 3 [(0, .ref (b0)), (1, .int (iI (z))), (2, .int (iI (q)))] := hl
  obtain ⟨i1_z, i2_z⟩ := in_z
  refine lv_iload_n hx hb d_mo_place_0 rfl (lv_at hl 1 rfl) ?_
  refine xi_if_ne (tgt := 20) hx hb ⟨by omega, by omega⟩ d_mo_place_1 (by decide) (fun u_1 => ?_) (fun u_1 => ?_)
  · skip
    refine lv_iload_n hx hb d_mo_place_20 rfl (lv_at hl 1 rfl) ?_
    refine lv_iconst (v := iI (1)) hx hb d_mo_place_21 rfl ?_
    refine xi_icmp_ne (tgt := 45) hx hb ⟨by omega, by omega⟩ ⟨by omega, by omega⟩ d_mo_place_22 (by decide) (fun u_2 => ?_) (fun u_2 => ?_)
    · skip
      refine lv_sipush (v := iI (15744)) hx hb d_mo_place_45 (by decide +kernel) ?_
      refine lv_bipush (v := iI (48)) hx hb d_mo_place_48 (by decide +kernel) ?_
      refine lv_iload_n hx hb d_mo_place_50 rfl (lv_at hl 2 rfl) ?_
      refine xi_mul hx hb d_mo_place_51 ?_
      refine xi_add hx hb d_mo_place_52 ?_
      have q_3 : iI ((15744) + ((48) * (q))) = iI (plc lv z q) := by
        refine congrArg iI ?_; unfold plc; first | (rw [if_pos (by omega)]; done) | (rw [if_neg (by omega), if_pos (by omega)]; done) | (rw [if_neg (by omega), if_neg (by omega)]; done)
      rw [q_3]
      exact W.iret (v := iI (plc lv z q)) hx hb hr (fun t ht hW => ⟨rfl, ht⟩) t_nil d_mo_place_53
    · skip
      refine lv_sipush (v := iI (6144)) hx hb d_mo_place_25 (by decide +kernel) ?_
      refine lv_sipush (v := iI (1200)) hx hb d_mo_place_28 (by decide +kernel) ?_
      refine lv_aload_n hx hb d_mo_place_31 rfl (lv_at hl 0 rfl) ?_
      refine va_get (D := (dC, dI)) (ci := 6) (v := .int (iI (lv))) (C := "OrganConsoleModel") (T := T_mo) (N := 29) hx hb htb in_mo hown hK hP 0 rfl rfl 18 (by decide) (htb _ tw_759) (fun _ h9 => h9) rfl d_mo_place_32 ?_
      refine xi_mul hx hb d_mo_place_35 ?_
      refine xi_add hx hb d_mo_place_36 ?_
      refine lv_bipush (v := iI (48)) hx hb d_mo_place_37 (by decide +kernel) ?_
      refine lv_iload_n hx hb d_mo_place_39 rfl (lv_at hl 2 rfl) ?_
      refine xi_mul hx hb d_mo_place_40 ?_
      refine xi_add hx hb d_mo_place_41 ?_
      refine lv_goto (tgt := 53) hx hb d_mo_place_42 (by decide) ?_
      have q_4 : iI (((6144) + ((1200) * (lv))) + ((48) * (q))) = iI (plc lv z q) := by
        refine congrArg iI ?_; unfold plc; first | (rw [if_pos (by omega)]; done) | (rw [if_neg (by omega), if_pos (by omega)]; done) | (rw [if_neg (by omega), if_neg (by omega)]; done)
      rw [q_4]
      exact W.iret (v := iI (plc lv z q)) hx hb hr (fun t ht hW => ⟨rfl, ht⟩) t_nil d_mo_place_53
  · skip
    refine lv_sipush (v := iI (768)) hx hb d_mo_place_4 (by decide +kernel) ?_
    refine lv_aload_n hx hb d_mo_place_7 rfl (lv_at hl 0 rfl) ?_
    refine va_get (D := (dC, dI)) (ci := 6) (v := .int (iI (lv))) (C := "OrganConsoleModel") (T := T_mo) (N := 29) hx hb htb in_mo hown hK hP 0 rfl rfl 18 (by decide) (htb _ tw_759) (fun _ h9 => h9) rfl d_mo_place_8 ?_
    refine xi_mul hx hb d_mo_place_11 ?_
    refine lv_bipush (v := iI (48)) hx hb d_mo_place_12 (by decide +kernel) ?_
    refine lv_iload_n hx hb d_mo_place_14 rfl (lv_at hl 2 rfl) ?_
    refine xi_mul hx hb d_mo_place_15 ?_
    refine xi_add hx hb d_mo_place_16 ?_
    refine lv_goto (tgt := 53) hx hb d_mo_place_17 (by decide) ?_
    have q_5 : iI (((768) * (lv)) + ((48) * (q))) = iI (plc lv z q) := by
      refine congrArg iI ?_; unfold plc; first | (rw [if_pos (by omega)]; done) | (rw [if_neg (by omega), if_pos (by omega)]; done) | (rw [if_neg (by omega), if_neg (by omega)]; done)
    rw [q_5]
    exact W.iret (v := iI (plc lv z q)) hx hb hr (fun t ht hW => ⟨rfl, ht⟩) t_nil d_mo_place_53

set_option maxHeartbeats 200000 in
set_option maxRecDepth 100000 in
theorem c_mo_inScope (l : Launch) (dC : Nat → ClassId) (dI : Nat → Nat → Nat) (cI cL cZ : ClassId) (b0 b1 b2 b3 b4 b5 b6 b7 b8 b9 b10 b11 b12 b13 b14 b15 b16 b17 b18 b19 : Nat) (th lv pe cu fm nf : Int) (n nc : Nat) (fd fs fl fh ft fc fr tt sh cf ve li : Nat → Int) (kn tg tb dn me cp sp : Nat → Bool) (fo lk : Bool) (hn : n ≤ 48) (hnc : nc ≤ 16) (hft : ∀ s, 0 ≤ ft s ∧ ft s ≤ 3) (hfc : ∀ s, 0 ≤ fc s ∧ fc s ≤ 2) (hsb : ∀ s, 0 ≤ fd s ∧ fd s < 5 ∧ -24 ≤ fs s ∧ fs s ≤ 24 ∧ 0 ≤ fl s ∧ fl s ≤ 96 ∧ 0 ≤ fh s ∧ fh s ≤ 96) (hcb : ∀ c, 0 ≤ fr c ∧ fr c < 5 ∧ 0 ≤ tt c ∧ tt c < 5 ∧ -24 ≤ sh c ∧ sh c ≤ 24) (hve : ∀ p, 0 ≤ ve p ∧ ve p ≤ 100000) (hnf : nf = -1 ∨ nf = 0 ∨ nf = 1) (hlv : 0 ≤ lv ∧ lv ≤ 7) (hcu : -1 ≤ cu ∧ cu < fm) (hpe : 0 ≤ pe ∧ pe ≤ 15) (hfm : 0 ≤ fm ∧ fm ≤ 100) (hcf : ∀ c, 0 ≤ cf c ∧ cf c ≤ 100) (hli : ∀ j, 0 ≤ li j ∧ li j ≤ 2) (z : Int) (in_z : inI z) (q : Int) (in_q : inI q) (k : Nat) (y : Int) (hy : y = (k : Int)) (hk : k < 48) (hq0 : 0 ≤ q) : Met l y_mo_inScope (Cond.code y_mo_inScope prog_8_method_14_code 4 (some .boolean) :: TB) ({ frames := 0, cells := 0, slots := 0, locals := 0 }) (va_Pc [.ref (b0), .int (iI (z)), .int (iI (q)), .int (iI (y))] (PW dC dI [(b0, .inr (6, [.int (iI (th)), .int (iI (((n : Nat) : Int))), .ref (b1), .ref (b2), .ref (b3), .ref (b4), .ref (b5), .ref (b6), .ref (b7), .ref (b8), .int (iI (((nc : Nat) : Int))), .ref (b9), .ref (b10), .ref (b11), .ref (b12), .ref (b13), .int (bI (fo)), .int (bI (lk)), .int (iI (lv)), .int (iI (pe)), .int (iI (cu)), .ref (b14), .int (iI (fm)), .ref (b15), .ref (b16), .ref (b17), .ref (b18), .int (iI (nf)), .ref (b19)])), (b1, .inl (cI, 48, .inl (aI (fd)))), (b2, .inl (cI, 48, .inl (aI (fs)))), (b3, .inl (cI, 48, .inl (aI (fl)))), (b4, .inl (cI, 48, .inl (aI (fh)))), (b5, .inl (cZ, 48, .inl (aZ (kn)))), (b6, .inl (cI, 48, .inl (aI (ft)))), (b7, .inl (cZ, 48, .inl (aZ (tg)))), (b8, .inl (cI, 48, .inl (aI (fc)))), (b9, .inl (cI, 16, .inl (aI (fr)))), (b10, .inl (cI, 16, .inl (aI (tt)))), (b11, .inl (cI, 16, .inl (aI (sh)))), (b12, .inl (cZ, 16, .inl (aZ (tb)))), (b13, .inl (cZ, 305, .inl (aZ (dn)))), (b14, .inl (cZ, 21312, .inl (aZ (me)))), (b15, .inl (cZ, 42624, .inl (aZ (cp)))), (b16, .inl (cI, 2, .inl (aI (cf)))), (b17, .inl (cI, 18, .inl (aI (ve)))), (b18, .inl (cZ, 18, .inl (aZ (sp)))), (b19, .inl (cI, 40, .inl (aI (li))))] [(cI, .int), (cL, .long), (cZ, .boolean)])) (k2_QcV (.int (bI (msc fd z q k)))) 0 0 (fun _ => False) := by
  refine Met.ofW (cc := prog_8_method_14_code) (maxL := 4) (ret := (some .boolean)) (by decide) rfl ?_
  intro p e s m args below meth c s₁ B hml hv
  obtain ⟨ha, hP, hK⟩ := hv
  have hx := B.exec
  have hb := B.bytes
  have hr := B.returns
  have htb : ∀ w ∈ TB, w.before args s = true := fun w h => atoms_spec (ws := Cond.code y_mo_inScope prog_8_method_14_code 4 (some .boolean) :: TB) B.pre w (List.mem_cons_of_mem _ h)
  have hown : s.vm.findClass "OrganConsoleModel" = some m.cls := findClass_of_methodNamed B.named
  have hlocks := B.notSynchronized
  have hl := lv_entry ([.ref (b0), .int (iI (z)), .int (iI (q)), .int (iI (y))]) (n := 4) (Nat.le_of_ble_eq_true rfl)
  refine W.eq (g2 := F0 m 0 _ []) (by rw [ha]; exact lg_entry_eq m ([.ref (b0), .int (iI (z)), .int (iI (q)), .int (iI (y))]) 4) ?_
  generalize (lg_sl ([.ref (b0), .int (iI (z)), .int (iI (q)), .int (iI (y))]) ++ List.replicate (4 - (lg_sl ([.ref (b0), .int (iI (z)), .int (iI (q)), .int (iI (y))])).length) Slot.unset).toArray = ls at hl ⊢
  have hl : lv_has ls 4 [(0, .ref (b0)), (1, .int (iI (z))), (2, .int (iI (q))), (3, .int (iI (y)))] := hl
  obtain ⟨i1_z, i2_z⟩ := in_z
  obtain ⟨i1_q, i2_q⟩ := in_q
  have hs := hsb k
  refine lv_iload_n hx hb d_mo_inScope_0 rfl (lv_at hl 1 rfl) ?_
  refine lv_iconst (v := iI (1)) hx hb d_mo_inScope_1 rfl ?_
  refine xi_icmp_ne (tgt := 17) hx hb ⟨by omega, by omega⟩ ⟨by omega, by omega⟩ d_mo_inScope_2 (by decide) (fun u_1 => ?_) (fun u_1 => ?_)
  · skip
    refine lv_iconst (v := iI (1)) hx hb d_mo_inScope_17 rfl ?_
    refine lv_goto (tgt := 22) hx hb d_mo_inScope_18 (by decide) ?_
    have q_2 : iI (1) = bI (msc fd z q k) := by
      exact bo_1 (decide_eq_true (by omega))
    rw [q_2]
    exact W.zret (ty := .boolean) (v := bI (msc fd z q k)) hx hb hr (bI_narrow _) (fun t ht hW => ⟨rfl, ht⟩) t_nil d_mo_inScope_22
  · skip
    refine lv_aload_n hx hb d_mo_inScope_5 rfl (lv_at hl 0 rfl) ?_
    refine va_get (D := (dC, dI)) (ci := 6) (v := .ref (b1)) (C := "OrganConsoleModel") (T := T_mo) (N := 29) hx hb htb in_mo hown hK hP 0 rfl rfl 2 (by decide) (htb _ tw_743) (fun _ h9 => h9) rfl d_mo_inScope_6 ?_
    refine lv_iload_n hx hb d_mo_inScope_9 rfl (lv_at hl 3 rfl) ?_
    refine xa_iald hx hb hK hP 1 0 rfl rfl k (by omega) (by omega) (by decide) d_mo_inScope_10 ?_
    refine lv_iload_n hx hb d_mo_inScope_11 rfl (lv_at hl 2 rfl) ?_
    refine lv_iconst (v := iI (5)) hx hb d_mo_inScope_12 rfl ?_
    refine xi_div hx hb ⟨by omega, by omega⟩ ⟨by omega, by omega⟩ d_mo_inScope_13 ?_
    refine xi_icmp_ne (tgt := 21) hx hb ⟨by omega, by omega⟩ ⟨by omega, by omega⟩ d_mo_inScope_14 (by decide) (fun u_3 => ?_) (fun u_3 => ?_)
    · skip
      refine lv_iconst (v := iI (0)) hx hb d_mo_inScope_21 rfl ?_
      have q_4 : iI (0) = bI (msc fd z q k) := by
        exact bo_0 (decide_eq_false (by omega))
      rw [q_4]
      exact W.zret (ty := .boolean) (v := bI (msc fd z q k)) hx hb hr (bI_narrow _) (fun t ht hW => ⟨rfl, ht⟩) t_nil d_mo_inScope_22
    · skip
      refine lv_iconst (v := iI (1)) hx hb d_mo_inScope_17 rfl ?_
      refine lv_goto (tgt := 22) hx hb d_mo_inScope_18 (by decide) ?_
      have q_5 : iI (1) = bI (msc fd z q k) := by
        exact bo_1 (decide_eq_true (by omega))
      rw [q_5]
      exact W.zret (ty := .boolean) (v := bI (msc fd z q k)) hx hb hr (bI_narrow _) (fun t ht hW => ⟨rfl, ht⟩) t_nil d_mo_inScope_22

set_option maxHeartbeats 200000 in
set_option maxRecDepth 100000 in
theorem c_mo_thrown (l : Launch) (dC : Nat → ClassId) (dI : Nat → Nat → Nat) (cI cL cZ : ClassId) (b0 b1 b2 b3 b4 b5 b6 b7 b8 b9 b10 b11 b12 b13 b14 b15 b16 b17 b18 b19 : Nat) (th lv pe cu fm nf : Int) (n nc : Nat) (fd fs fl fh ft fc fr tt sh cf ve li : Nat → Int) (kn tg tb dn me cp sp : Nat → Bool) (fo lk : Bool) (hn : n ≤ 48) (hnc : nc ≤ 16) (hft : ∀ s, 0 ≤ ft s ∧ ft s ≤ 3) (hfc : ∀ s, 0 ≤ fc s ∧ fc s ≤ 2) (hsb : ∀ s, 0 ≤ fd s ∧ fd s < 5 ∧ -24 ≤ fs s ∧ fs s ≤ 24 ∧ 0 ≤ fl s ∧ fl s ≤ 96 ∧ 0 ≤ fh s ∧ fh s ≤ 96) (hcb : ∀ c, 0 ≤ fr c ∧ fr c < 5 ∧ 0 ≤ tt c ∧ tt c < 5 ∧ -24 ≤ sh c ∧ sh c ≤ 24) (hve : ∀ p, 0 ≤ ve p ∧ ve p ≤ 100000) (hnf : nf = -1 ∨ nf = 0 ∨ nf = 1) (hlv : 0 ≤ lv ∧ lv ≤ 7) (hcu : -1 ≤ cu ∧ cu < fm) (hpe : 0 ≤ pe ∧ pe ≤ 15) (hfm : 0 ≤ fm ∧ fm ≤ 100) (hcf : ∀ c, 0 ≤ cf c ∧ cf c ≤ 100) (hli : ∀ j, 0 ≤ li j ∧ li j ≤ 2) : Met l y_mo_thrown (Cond.code y_mo_thrown prog_8_method_2_code 1 (some .int) :: TB) ({ frames := 0, cells := 0, slots := 0, locals := 0 }) (va_Pc [.ref (b0)] (PW dC dI [(b0, .inr (6, [.int (iI (th)), .int (iI (((n : Nat) : Int))), .ref (b1), .ref (b2), .ref (b3), .ref (b4), .ref (b5), .ref (b6), .ref (b7), .ref (b8), .int (iI (((nc : Nat) : Int))), .ref (b9), .ref (b10), .ref (b11), .ref (b12), .ref (b13), .int (bI (fo)), .int (bI (lk)), .int (iI (lv)), .int (iI (pe)), .int (iI (cu)), .ref (b14), .int (iI (fm)), .ref (b15), .ref (b16), .ref (b17), .ref (b18), .int (iI (nf)), .ref (b19)])), (b1, .inl (cI, 48, .inl (aI (fd)))), (b2, .inl (cI, 48, .inl (aI (fs)))), (b3, .inl (cI, 48, .inl (aI (fl)))), (b4, .inl (cI, 48, .inl (aI (fh)))), (b5, .inl (cZ, 48, .inl (aZ (kn)))), (b6, .inl (cI, 48, .inl (aI (ft)))), (b7, .inl (cZ, 48, .inl (aZ (tg)))), (b8, .inl (cI, 48, .inl (aI (fc)))), (b9, .inl (cI, 16, .inl (aI (fr)))), (b10, .inl (cI, 16, .inl (aI (tt)))), (b11, .inl (cI, 16, .inl (aI (sh)))), (b12, .inl (cZ, 16, .inl (aZ (tb)))), (b13, .inl (cZ, 305, .inl (aZ (dn)))), (b14, .inl (cZ, 21312, .inl (aZ (me)))), (b15, .inl (cZ, 42624, .inl (aZ (cp)))), (b16, .inl (cI, 2, .inl (aI (cf)))), (b17, .inl (cI, 18, .inl (aI (ve)))), (b18, .inl (cZ, 18, .inl (aZ (sp)))), (b19, .inl (cI, 40, .inl (aI (li))))] [(cI, .int), (cL, .long), (cZ, .boolean)])) (k2_QcV (.int (iI (th)))) 0 0 (fun _ => False) := by
  refine Met.ofW (cc := prog_8_method_2_code) (maxL := 1) (ret := (some .int)) (by decide) rfl ?_
  intro p e s m args below meth c s₁ B hml hv
  obtain ⟨ha, hP, hK⟩ := hv
  have hx := B.exec
  have hb := B.bytes
  have hr := B.returns
  have htb : ∀ w ∈ TB, w.before args s = true := fun w h => atoms_spec (ws := Cond.code y_mo_thrown prog_8_method_2_code 1 (some .int) :: TB) B.pre w (List.mem_cons_of_mem _ h)
  have hown : s.vm.findClass "OrganConsoleModel" = some m.cls := findClass_of_methodNamed B.named
  have hlocks := B.notSynchronized
  have hl := lv_entry ([.ref (b0)]) (n := 1) (Nat.le_of_ble_eq_true rfl)
  refine W.eq (g2 := F0 m 0 _ []) (by rw [ha]; exact lg_entry_eq m ([.ref (b0)]) 1) ?_
  generalize (lg_sl ([.ref (b0)]) ++ List.replicate (1 - (lg_sl ([.ref (b0)])).length) Slot.unset).toArray = ls at hl ⊢
  have hl : lv_has ls 1 [(0, .ref (b0))] := hl
  refine lv_aload_n hx hb d_mo_thrown_0 rfl (lv_at hl 0 rfl) ?_
  refine va_get (D := (dC, dI)) (ci := 6) (v := .int (iI (th))) (C := "OrganConsoleModel") (T := T_mo) (N := 29) hx hb htb in_mo hown hK hP 0 rfl rfl 0 (by decide) (htb _ tw_741) (fun _ h9 => h9) rfl d_mo_thrown_1 ?_
  exact W.iret (v := iI (th)) hx hb hr (fun t ht hW => ⟨rfl, ht⟩) t_nil d_mo_thrown_4

