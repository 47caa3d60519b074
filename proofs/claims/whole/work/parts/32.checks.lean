/-! the checks: they return, or they throw -/
theorem pis_in {z fm : Int} (h1 : 0 ≤ fm) (h2 : fm ≤ 100) : 0 ≤ pis z fm ∧ pis z fm ≤ 100 := by
  unfold pis
  repeat' split
  all_goals omega
theorem wis_in {z : Int} {n : Nat} (h : n ≤ 48) : 0 ≤ wis z n ∧ wis z n ≤ 48 := by
  unfold wis
  repeat' split
  all_goals omega
set_option maxHeartbeats 200000 in
set_option maxRecDepth 100000 in
theorem c_oc_checkKeyboard (l : Launch) (z : Int) (hz : inI z) (hok9 : 0 ≤ z ∧ z < 5) : Met l y_oc_checkKeyboard (Cond.code y_oc_checkKeyboard prog_1_method_27_code 1 none :: TB) ({ frames := 0, cells := 0, slots := 0, locals := 0 }) (va_Pc [.int (iI (z))] (fun U => True)) QN 0 0 (fun _ => False) := by
  refine Met.ofW (cc := prog_1_method_27_code) (maxL := 1) (ret := none) (by decide) rfl ?_
  intro p e s m args below meth c s₁ B hml hv
  obtain ⟨ha, -⟩ := hv
  have hx := B.exec
  have hb := B.bytes
  have hr := B.returns
  have htb : ∀ w ∈ TB, w.before args s = true := fun w h => atoms_spec (ws := Cond.code y_oc_checkKeyboard prog_1_method_27_code 1 none :: TB) B.pre w (List.mem_cons_of_mem _ h)
  have hown : s.vm.findClass "OrganConsole" = some m.cls := findClass_of_methodNamed B.named
  have hlocks := B.notSynchronized
  have hl := lv_entry ([.int (iI (z))]) (n := 1) (Nat.le_of_ble_eq_true rfl)
  refine W.eq (g2 := F0 m 0 _ []) (by rw [ha]; exact lg_entry_eq m ([.int (iI (z))]) 1) ?_
  generalize (lg_sl ([.int (iI (z))]) ++ List.replicate (1 - (lg_sl ([.int (iI (z))])).length) Slot.unset).toArray = ls at hl ⊢
  have hl : lv_has ls 1 [(0, .int (iI (z)))] := hl
  obtain ⟨hz1, hz2⟩ := hz
  refine lv_iload_n hx hb d_oc_checkKeyboard_0 rfl (lv_at hl 0 rfl) ?_
  refine xi_if_lt (tgt := 9) hx hb ⟨by omega, by omega⟩ d_oc_checkKeyboard_1 (by decide) (fun u_1 => ?_) (fun u_1 => ?_)
  · skip
    exfalso; first | omega | simp_all
  · skip
    refine lv_iload_n hx hb d_oc_checkKeyboard_4 rfl (lv_at hl 0 rfl) ?_
    refine lv_iconst (v := iI (5)) hx hb d_oc_checkKeyboard_5 rfl ?_
    refine xi_icmp_lt (tgt := 20) hx hb ⟨by omega, by omega⟩ ⟨by omega, by omega⟩ d_oc_checkKeyboard_6 (by decide) (fun u_2 => ?_) (fun u_2 => ?_)
    · skip
      exact W.vret hx hb hr (fun t ht hW => ⟨rfl, ht⟩) t_nil d_oc_checkKeyboard_20
    · skip
      exfalso; first | omega | simp_all

set_option maxHeartbeats 200000 in
set_option maxRecDepth 100000 in
theorem x_oc_checkKeyboard (l : Launch) (htr : l.stackTraces = false) (z : Int) (hz : inI z) (hbad : ¬ (0 ≤ z ∧ z < 5)) : ex_Met l y_oc_checkKeyboard (Cond.code y_oc_checkKeyboard prog_1_method_27_code 1 none :: TB) ({ frames := 6, cells := 1, slots := 6, locals := 90 }) (va_Pc [.int (iI (z))] XB) (fun _ _ _ _ => False) (fun E9 => E9 = "java/util/NoSuchElementException") 1 6 (fun _ => False) := by
  refine ex_ofW (cc := prog_1_method_27_code) (maxL := 1) (ret := none) (by decide) rfl ?_
  intro p e s m args below meth c s₁ B hml hno hv
  obtain ⟨ha, hB⟩ := hv
  have hx := B.exec
  have hb := B.bytes
  have hr := B.returns
  have htb : ∀ w ∈ TB, w.before args s = true := fun w h => atoms_spec (ws := Cond.code y_oc_checkKeyboard prog_1_method_27_code 1 none :: TB) B.pre w (List.mem_cons_of_mem _ h)
  have hown : s.vm.findClass "OrganConsole" = some m.cls := findClass_of_methodNamed B.named
  have hlocks := B.notSynchronized
  have hl := lv_entry ([.int (iI (z))]) (n := 1) (Nat.le_of_ble_eq_true rfl)
  refine W.eq (g2 := F0 m 0 _ []) (by rw [ha]; exact lg_entry_eq m ([.int (iI (z))]) 1) ?_
  generalize (lg_sl ([.int (iI (z))]) ++ List.replicate (1 - (lg_sl ([.int (iI (z))])).length) Slot.unset).toArray = ls at hl ⊢
  have hl : lv_has ls 1 [(0, .int (iI (z)))] := hl
  obtain ⟨hz1, hz2⟩ := hz
  refine lv_iload_n hx hb d_oc_checkKeyboard_0 rfl (lv_at hl 0 rfl) ?_
  refine xi_if_lt (tgt := 9) hx hb ⟨by omega, by omega⟩ d_oc_checkKeyboard_1 (by decide) (fun u_1 => ?_) (fun u_1 => ?_)
  · skip
    exact ex_throwW hx hb htr hown htb hB (Or.inl rfl) tw_295 tw_337 (by decide) (Nat.le_refl _) ⟨Nat.le_of_ble_eq_true rfl, Nat.le_of_ble_eq_true rfl⟩ (hl.1.trans hml.symm) hno hlocks rfl (Nat.le_of_ble_eq_true rfl) (Nat.le_of_ble_eq_true rfl) (Nat.le_of_ble_eq_true rfl) (Nat.le_of_ble_eq_true rfl) d_oc_checkKeyboard_9 d_oc_checkKeyboard_12 d_oc_checkKeyboard_13 d_oc_checkKeyboard_16 d_oc_checkKeyboard_19
  · skip
    refine lv_iload_n hx hb d_oc_checkKeyboard_4 rfl (lv_at hl 0 rfl) ?_
    refine lv_iconst (v := iI (5)) hx hb d_oc_checkKeyboard_5 rfl ?_
    refine xi_icmp_lt (tgt := 20) hx hb ⟨by omega, by omega⟩ ⟨by omega, by omega⟩ d_oc_checkKeyboard_6 (by decide) (fun u_2 => ?_) (fun u_2 => ?_)
    · skip
      exfalso; first | omega | simp_all
    · skip
      exact ex_throwW hx hb htr hown htb hB (Or.inl rfl) tw_295 tw_337 (by decide) (Nat.le_refl _) ⟨Nat.le_of_ble_eq_true rfl, Nat.le_of_ble_eq_true rfl⟩ (hl.1.trans hml.symm) hno hlocks rfl (Nat.le_of_ble_eq_true rfl) (Nat.le_of_ble_eq_true rfl) (Nat.le_of_ble_eq_true rfl) (Nat.le_of_ble_eq_true rfl) d_oc_checkKeyboard_9 d_oc_checkKeyboard_12 d_oc_checkKeyboard_13 d_oc_checkKeyboard_16 d_oc_checkKeyboard_19

set_option maxHeartbeats 200000 in
set_option maxRecDepth 100000 in
theorem c_oc_checkShift (l : Launch) (z : Int) (hz : inI z) (hok9 : -24 ≤ z ∧ z ≤ 24) : Met l y_oc_checkShift (Cond.code y_oc_checkShift prog_1_method_28_code 1 none :: TB) ({ frames := 0, cells := 0, slots := 0, locals := 0 }) (va_Pc [.int (iI (z))] (fun U => True)) QN 0 0 (fun _ => False) := by
  refine Met.ofW (cc := prog_1_method_28_code) (maxL := 1) (ret := none) (by decide) rfl ?_
  intro p e s m args below meth c s₁ B hml hv
  obtain ⟨ha, -⟩ := hv
  have hx := B.exec
  have hb := B.bytes
  have hr := B.returns
  have htb : ∀ w ∈ TB, w.before args s = true := fun w h => atoms_spec (ws := Cond.code y_oc_checkShift prog_1_method_28_code 1 none :: TB) B.pre w (List.mem_cons_of_mem _ h)
  have hown : s.vm.findClass "OrganConsole" = some m.cls := findClass_of_methodNamed B.named
  have hlocks := B.notSynchronized
  have hl := lv_entry ([.int (iI (z))]) (n := 1) (Nat.le_of_ble_eq_true rfl)
  refine W.eq (g2 := F0 m 0 _ []) (by rw [ha]; exact lg_entry_eq m ([.int (iI (z))]) 1) ?_
  generalize (lg_sl ([.int (iI (z))]) ++ List.replicate (1 - (lg_sl ([.int (iI (z))])).length) Slot.unset).toArray = ls at hl ⊢
  have hl : lv_has ls 1 [(0, .int (iI (z)))] := hl
  obtain ⟨hz1, hz2⟩ := hz
  refine lv_iload_n hx hb d_oc_checkShift_0 rfl (lv_at hl 0 rfl) ?_
  refine lv_bipush (v := iI (-24)) hx hb d_oc_checkShift_1 (by decide +kernel) ?_
  refine xi_icmp_lt (tgt := 12) hx hb ⟨by omega, by omega⟩ ⟨by omega, by omega⟩ d_oc_checkShift_3 (by decide) (fun u_1 => ?_) (fun u_1 => ?_)
  · skip
    exfalso; first | omega | simp_all
  · skip
    refine lv_iload_n hx hb d_oc_checkShift_6 rfl (lv_at hl 0 rfl) ?_
    refine lv_bipush (v := iI (24)) hx hb d_oc_checkShift_7 (by decide +kernel) ?_
    refine xi_icmp_le (tgt := 23) hx hb ⟨by omega, by omega⟩ ⟨by omega, by omega⟩ d_oc_checkShift_9 (by decide) (fun u_2 => ?_) (fun u_2 => ?_)
    · skip
      exact W.vret hx hb hr (fun t ht hW => ⟨rfl, ht⟩) t_nil d_oc_checkShift_23
    · skip
      exfalso; first | omega | simp_all

set_option maxHeartbeats 200000 in
set_option maxRecDepth 100000 in
theorem x_oc_checkShift (l : Launch) (htr : l.stackTraces = false) (z : Int) (hz : inI z) (hbad : ¬ (-24 ≤ z ∧ z ≤ 24)) : ex_Met l y_oc_checkShift (Cond.code y_oc_checkShift prog_1_method_28_code 1 none :: TB) ({ frames := 6, cells := 1, slots := 6, locals := 90 }) (va_Pc [.int (iI (z))] XB) (fun _ _ _ _ => False) (fun E9 => E9 = "java/lang/IllegalArgumentException") 1 6 (fun _ => False) := by
  refine ex_ofW (cc := prog_1_method_28_code) (maxL := 1) (ret := none) (by decide) rfl ?_
  intro p e s m args below meth c s₁ B hml hno hv
  obtain ⟨ha, hB⟩ := hv
  have hx := B.exec
  have hb := B.bytes
  have hr := B.returns
  have htb : ∀ w ∈ TB, w.before args s = true := fun w h => atoms_spec (ws := Cond.code y_oc_checkShift prog_1_method_28_code 1 none :: TB) B.pre w (List.mem_cons_of_mem _ h)
  have hown : s.vm.findClass "OrganConsole" = some m.cls := findClass_of_methodNamed B.named
  have hlocks := B.notSynchronized
  have hl := lv_entry ([.int (iI (z))]) (n := 1) (Nat.le_of_ble_eq_true rfl)
  refine W.eq (g2 := F0 m 0 _ []) (by rw [ha]; exact lg_entry_eq m ([.int (iI (z))]) 1) ?_
  generalize (lg_sl ([.int (iI (z))]) ++ List.replicate (1 - (lg_sl ([.int (iI (z))])).length) Slot.unset).toArray = ls at hl ⊢
  have hl : lv_has ls 1 [(0, .int (iI (z)))] := hl
  obtain ⟨hz1, hz2⟩ := hz
  refine lv_iload_n hx hb d_oc_checkShift_0 rfl (lv_at hl 0 rfl) ?_
  refine lv_bipush (v := iI (-24)) hx hb d_oc_checkShift_1 (by decide +kernel) ?_
  refine xi_icmp_lt (tgt := 12) hx hb ⟨by omega, by omega⟩ ⟨by omega, by omega⟩ d_oc_checkShift_3 (by decide) (fun u_1 => ?_) (fun u_1 => ?_)
  · skip
    exact ex_throwW hx hb htr hown htb hB (Or.inr (Or.inl rfl)) tw_366 tw_376 (by decide) (Nat.le_refl _) ⟨Nat.le_of_ble_eq_true rfl, Nat.le_of_ble_eq_true rfl⟩ (hl.1.trans hml.symm) hno hlocks rfl (Nat.le_of_ble_eq_true rfl) (Nat.le_of_ble_eq_true rfl) (Nat.le_of_ble_eq_true rfl) (Nat.le_of_ble_eq_true rfl) d_oc_checkShift_12 d_oc_checkShift_15 d_oc_checkShift_16 d_oc_checkShift_19 d_oc_checkShift_22
  · skip
    refine lv_iload_n hx hb d_oc_checkShift_6 rfl (lv_at hl 0 rfl) ?_
    refine lv_bipush (v := iI (24)) hx hb d_oc_checkShift_7 (by decide +kernel) ?_
    refine xi_icmp_le (tgt := 23) hx hb ⟨by omega, by omega⟩ ⟨by omega, by omega⟩ d_oc_checkShift_9 (by decide) (fun u_2 => ?_) (fun u_2 => ?_)
    · skip
      exfalso; first | omega | simp_all
    · skip
      exact ex_throwW hx hb htr hown htb hB (Or.inr (Or.inl rfl)) tw_366 tw_376 (by decide) (Nat.le_refl _) ⟨Nat.le_of_ble_eq_true rfl, Nat.le_of_ble_eq_true rfl⟩ (hl.1.trans hml.symm) hno hlocks rfl (Nat.le_of_ble_eq_true rfl) (Nat.le_of_ble_eq_true rfl) (Nat.le_of_ble_eq_true rfl) (Nat.le_of_ble_eq_true rfl) d_oc_checkShift_12 d_oc_checkShift_15 d_oc_checkShift_16 d_oc_checkShift_19 d_oc_checkShift_22

set_option maxHeartbeats 200000 in
set_option maxRecDepth 100000 in
theorem c_oc_checkStop (l : Launch) (dC : Nat → ClassId) (dI : Nat → Nat → Nat) (cI cL cZ : ClassId) (o0 l0 : Nat) (lv cu pe : Int) (lk fo : Bool) (li : Nat → Int) (k0 k1 k2 k3 k4 : Nat) (g : Nat → Nat → Bool) (fr tt sh : Nat → Int) (nc : Nat) (tb : Nat → Bool) (hok : kwOk g fr tt sh nc) (s0 s1 s2 s3 s4 s5 s6 s7 : Nat) (fd fs fl fh ft fc : Nat → Int) (go : Nat → Nat → Bool) (n : Nat) (kn : Nat → Bool) (hn : n ≤ 48) (hft : ∀ s, 0 ≤ ft s ∧ ft s ≤ 3) (hfc : ∀ s, 0 ≤ fc s ∧ fc s ≤ 2) (hsb : ∀ s, 0 ≤ fd s ∧ fd s < 5 ∧ -24 ≤ fs s ∧ fs s ≤ 24 ∧ 0 ≤ fl s ∧ fl s ≤ 96 ∧ 0 ≤ fh s ∧ fh s ≤ 96) (m0 m1 : Nat) (row : Nat → Nat → Bool) (fm : Int) (r0 : Nat) (nf : Int) (c0 c1 c2 c3 c4 : Nat) (fv : Nat → Int) (fz : Nat → Bool) (rw9 : Nat → Nat → Bool) (fw : Int) (d0 d1 d2 d3 d4 : Nat) (gw : Nat → Int) (gz : Nat → Bool) (rx9 : Nat → Nat → Bool) (fx : Int) (hnf : nf = -1 ∨ nf = 0 ∨ nf = 1) (hv : ∀ p, 0 ≤ fv p ∧ fv p ≤ 100000) (hgw : ∀ p, 0 ≤ gw p ∧ gw p ≤ 100000) (hlv : 0 ≤ lv ∧ lv ≤ 7) (hcu : -1 ≤ cu ∧ cu < fm) (hpe : 0 ≤ pe ∧ pe ≤ 15) (hfm : 0 ≤ fm ∧ fm ≤ 100) (hli : ∀ j, 0 ≤ li j ∧ li j ≤ 2) (z : Int) (hz : inI z) (hok9 : 0 ≤ z ∧ z < (n : Int)) : Met l y_oc_checkStop (Cond.code y_oc_checkStop prog_1_method_29_code 2 none :: TB) ({ frames := 0, cells := 0, slots := 0, locals := 0 }) (va_Pc [.ref (o0), .int (iI (z))] (PN dC dI [(o0, .inr (5, [.ref (k0), .ref (s0), .ref (m0), .ref (r0), .ref (l0), .int (iI (lv)), .int (iI (cu)), .int (iI (pe)), .int (bI (lk)), .int (bI (fo))])), (k0, .inr (1, [.ref (k1), .ref (k2), .ref (k3), .ref (k4), .int (iI (((nc : Nat) : Int))), .long (bL (tb))])), (k1, .inl (cL, 5, .inr (.inl (aB (g))))), (k2, .inl (cI, 16, .inl (aI (fr)))), (k3, .inl (cI, 16, .inl (aI (tt)))), (k4, .inl (cI, 16, .inl (aI (sh)))), (s0, .inr (3, [.ref (s1), .ref (s2), .ref (s3), .ref (s4), .ref (s5), .ref (s6), .ref (s7), .int (iI (((n : Nat) : Int))), .long (bL (kn))])), (s1, .inl (cI, 48, .inl (aI (fd)))), (s2, .inl (cI, 48, .inl (aI (fs)))), (s3, .inl (cI, 48, .inl (aI (fl)))), (s4, .inl (cI, 48, .inl (aI (fh)))), (s5, .inl (cI, 48, .inl (aI (ft)))), (s6, .inl (cI, 48, .inl (aI (fc)))), (s7, .inl (cL, 5, .inr (.inl (aB (go))))), (m0, .inr (2, [.ref (m1), .int (iI (fm))])), (m1, .inl (cL, 443, .inr (.inl (aB (row))))), (r0, .inr (4, [.ref (c0), .ref (d0), .int (iI (nf))])), (c0, .inr (0, [.ref (c1), .ref (c2), .ref (c3)])), (c1, .inl (cI, 9, .inl (aI (fv)))), (c2, .inl (cZ, 9, .inl (aZ (fz)))), (c3, .inr (2, [.ref (c4), .int (iI (fw))])), (c4, .inl (cL, 443, .inr (.inl (aB (rw9))))), (d0, .inr (0, [.ref (d1), .ref (d2), .ref (d3)])), (d1, .inl (cI, 9, .inl (aI (gw)))), (d2, .inl (cZ, 9, .inl (aZ (gz)))), (d3, .inr (2, [.ref (d4), .int (iI (fx))])), (d4, .inl (cL, 443, .inr (.inl (aB (rx9))))), (l0, .inl (cI, 40, .inl (aI (li))))] [(cI, .int), (cL, .long), (cZ, .boolean)])) QN 0 0 (fun _ => False) := by
  refine Met.ofW (cc := prog_1_method_29_code) (maxL := 2) (ret := none) (by decide) rfl ?_
  intro p e s m args below meth c s₁ B hml hv
  obtain ⟨ha, hP, hK, hN⟩ := hv
  have hx := B.exec
  have hb := B.bytes
  have hr := B.returns
  have htb : ∀ w ∈ TB, w.before args s = true := fun w h => atoms_spec (ws := Cond.code y_oc_checkStop prog_1_method_29_code 2 none :: TB) B.pre w (List.mem_cons_of_mem _ h)
  have hown : s.vm.findClass "OrganConsole" = some m.cls := findClass_of_methodNamed B.named
  have hlocks := B.notSynchronized
  have hl := lv_entry ([.ref (o0), .int (iI (z))]) (n := 2) (Nat.le_of_ble_eq_true rfl)
  refine W.eq (g2 := F0 m 0 _ []) (by rw [ha]; exact lg_entry_eq m ([.ref (o0), .int (iI (z))]) 2) ?_
  generalize (lg_sl ([.ref (o0), .int (iI (z))]) ++ List.replicate (2 - (lg_sl ([.ref (o0), .int (iI (z))])).length) Slot.unset).toArray = ls at hl ⊢
  have hl : lv_has ls 2 [(0, .ref (o0)), (1, .int (iI (z)))] := hl
  obtain ⟨hz1, hz2⟩ := hz
  refine lv_iload_n hx hb d_oc_checkStop_0 rfl (lv_at hl 1 rfl) ?_
  refine xi_if_lt (tgt := 15) hx hb ⟨by omega, by omega⟩ d_oc_checkStop_1 (by decide) (fun u_1 => ?_) (fun u_1 => ?_)
  · skip
    exfalso; first | omega | simp_all
  · skip
    refine lv_iload_n hx hb d_oc_checkStop_4 rfl (lv_at hl 1 rfl) ?_
    refine lv_aload_n hx hb d_oc_checkStop_5 rfl (lv_at hl 0 rfl) ?_
    refine va_get (D := (dC, dI)) (ci := 5) (v := .ref (s0)) (C := "OrganConsole") (T := T_oc) (N := 10) hx hb htb in_oc hown hK hP 0 rfl rfl 1 (by decide) (htb _ tw_188) (fun _ h9 => h9) rfl d_oc_checkStop_6 ?_
    refine va_get (D := (dC, dI)) (ci := 3) (v := .int (iI (((n : Nat) : Int)))) (C := "OrganConsole$Stops") (T := T_st) (N := 9) hx hb htb in_st hown hK hP 6 rfl rfl 7 (by decide) (htb _ tw_110) (fun _ h9 => h9) rfl d_oc_checkStop_9 ?_
    refine xi_icmp_lt (tgt := 26) hx hb ⟨by omega, by omega⟩ ⟨by omega, by omega⟩ d_oc_checkStop_12 (by decide) (fun u_2 => ?_) (fun u_2 => ?_)
    · skip
      exact W.vret hx hb hr (fun t ht hW => ⟨rfl, ht⟩) t_nil d_oc_checkStop_26
    · skip
      exfalso; first | omega | simp_all

set_option maxHeartbeats 200000 in
set_option maxRecDepth 100000 in
theorem x_oc_checkStop (l : Launch) (htr : l.stackTraces = false) (dC : Nat → ClassId) (dI : Nat → Nat → Nat) (cI cL cZ : ClassId) (o0 l0 : Nat) (lv cu pe : Int) (lk fo : Bool) (li : Nat → Int) (k0 k1 k2 k3 k4 : Nat) (g : Nat → Nat → Bool) (fr tt sh : Nat → Int) (nc : Nat) (tb : Nat → Bool) (hok : kwOk g fr tt sh nc) (s0 s1 s2 s3 s4 s5 s6 s7 : Nat) (fd fs fl fh ft fc : Nat → Int) (go : Nat → Nat → Bool) (n : Nat) (kn : Nat → Bool) (hn : n ≤ 48) (hft : ∀ s, 0 ≤ ft s ∧ ft s ≤ 3) (hfc : ∀ s, 0 ≤ fc s ∧ fc s ≤ 2) (hsb : ∀ s, 0 ≤ fd s ∧ fd s < 5 ∧ -24 ≤ fs s ∧ fs s ≤ 24 ∧ 0 ≤ fl s ∧ fl s ≤ 96 ∧ 0 ≤ fh s ∧ fh s ≤ 96) (m0 m1 : Nat) (row : Nat → Nat → Bool) (fm : Int) (r0 : Nat) (nf : Int) (c0 c1 c2 c3 c4 : Nat) (fv : Nat → Int) (fz : Nat → Bool) (rw9 : Nat → Nat → Bool) (fw : Int) (d0 d1 d2 d3 d4 : Nat) (gw : Nat → Int) (gz : Nat → Bool) (rx9 : Nat → Nat → Bool) (fx : Int) (hnf : nf = -1 ∨ nf = 0 ∨ nf = 1) (hv : ∀ p, 0 ≤ fv p ∧ fv p ≤ 100000) (hgw : ∀ p, 0 ≤ gw p ∧ gw p ≤ 100000) (hlv : 0 ≤ lv ∧ lv ≤ 7) (hcu : -1 ≤ cu ∧ cu < fm) (hpe : 0 ≤ pe ∧ pe ≤ 15) (hfm : 0 ≤ fm ∧ fm ≤ 100) (hli : ∀ j, 0 ≤ li j ∧ li j ≤ 2) (z : Int) (hz : inI z) (hbad : ¬ (0 ≤ z ∧ z < (n : Int))) : ex_Met l y_oc_checkStop (Cond.code y_oc_checkStop prog_1_method_29_code 2 none :: TB) ({ frames := 6, cells := 1, slots := 6, locals := 90 }) (va_Pc [.ref (o0), .int (iI (z))] (PT dC dI [(o0, .inr (5, [.ref (k0), .ref (s0), .ref (m0), .ref (r0), .ref (l0), .int (iI (lv)), .int (iI (cu)), .int (iI (pe)), .int (bI (lk)), .int (bI (fo))])), (k0, .inr (1, [.ref (k1), .ref (k2), .ref (k3), .ref (k4), .int (iI (((nc : Nat) : Int))), .long (bL (tb))])), (k1, .inl (cL, 5, .inr (.inl (aB (g))))), (k2, .inl (cI, 16, .inl (aI (fr)))), (k3, .inl (cI, 16, .inl (aI (tt)))), (k4, .inl (cI, 16, .inl (aI (sh)))), (s0, .inr (3, [.ref (s1), .ref (s2), .ref (s3), .ref (s4), .ref (s5), .ref (s6), .ref (s7), .int (iI (((n : Nat) : Int))), .long (bL (kn))])), (s1, .inl (cI, 48, .inl (aI (fd)))), (s2, .inl (cI, 48, .inl (aI (fs)))), (s3, .inl (cI, 48, .inl (aI (fl)))), (s4, .inl (cI, 48, .inl (aI (fh)))), (s5, .inl (cI, 48, .inl (aI (ft)))), (s6, .inl (cI, 48, .inl (aI (fc)))), (s7, .inl (cL, 5, .inr (.inl (aB (go))))), (m0, .inr (2, [.ref (m1), .int (iI (fm))])), (m1, .inl (cL, 443, .inr (.inl (aB (row))))), (r0, .inr (4, [.ref (c0), .ref (d0), .int (iI (nf))])), (c0, .inr (0, [.ref (c1), .ref (c2), .ref (c3)])), (c1, .inl (cI, 9, .inl (aI (fv)))), (c2, .inl (cZ, 9, .inl (aZ (fz)))), (c3, .inr (2, [.ref (c4), .int (iI (fw))])), (c4, .inl (cL, 443, .inr (.inl (aB (rw9))))), (d0, .inr (0, [.ref (d1), .ref (d2), .ref (d3)])), (d1, .inl (cI, 9, .inl (aI (gw)))), (d2, .inl (cZ, 9, .inl (aZ (gz)))), (d3, .inr (2, [.ref (d4), .int (iI (fx))])), (d4, .inl (cL, 443, .inr (.inl (aB (rx9))))), (l0, .inl (cI, 40, .inl (aI (li))))] [(cI, .int), (cL, .long), (cZ, .boolean)])) (fun _ _ _ _ => False) (fun E9 => E9 = "java/util/NoSuchElementException") 1 6 (fun _ => False) := by
  refine ex_ofW (cc := prog_1_method_29_code) (maxL := 2) (ret := none) (by decide) rfl ?_
  intro p e s m args below meth c s₁ B hml hno hv
  obtain ⟨ha, hP, hK, hN, hB⟩ := hv
  have hx := B.exec
  have hb := B.bytes
  have hr := B.returns
  have htb : ∀ w ∈ TB, w.before args s = true := fun w h => atoms_spec (ws := Cond.code y_oc_checkStop prog_1_method_29_code 2 none :: TB) B.pre w (List.mem_cons_of_mem _ h)
  have hown : s.vm.findClass "OrganConsole" = some m.cls := findClass_of_methodNamed B.named
  have hlocks := B.notSynchronized
  have hl := lv_entry ([.ref (o0), .int (iI (z))]) (n := 2) (Nat.le_of_ble_eq_true rfl)
  refine W.eq (g2 := F0 m 0 _ []) (by rw [ha]; exact lg_entry_eq m ([.ref (o0), .int (iI (z))]) 2) ?_
  generalize (lg_sl ([.ref (o0), .int (iI (z))]) ++ List.replicate (2 - (lg_sl ([.ref (o0), .int (iI (z))])).length) Slot.unset).toArray = ls at hl ⊢
  have hl : lv_has ls 2 [(0, .ref (o0)), (1, .int (iI (z)))] := hl
  obtain ⟨hz1, hz2⟩ := hz
  refine lv_iload_n hx hb d_oc_checkStop_0 rfl (lv_at hl 1 rfl) ?_
  refine xi_if_lt (tgt := 15) hx hb ⟨by omega, by omega⟩ d_oc_checkStop_1 (by decide) (fun u_1 => ?_) (fun u_1 => ?_)
  · skip
    exact ex_throwW hx hb htr hown htb hB (Or.inl rfl) tw_295 tw_337 (by decide) (Nat.le_refl _) ⟨Nat.le_of_ble_eq_true rfl, Nat.le_of_ble_eq_true rfl⟩ (hl.1.trans hml.symm) hno hlocks rfl (Nat.le_of_ble_eq_true rfl) (Nat.le_of_ble_eq_true rfl) (Nat.le_of_ble_eq_true rfl) (Nat.le_of_ble_eq_true rfl) d_oc_checkStop_15 d_oc_checkStop_18 d_oc_checkStop_19 d_oc_checkStop_22 d_oc_checkStop_25
  · skip
    refine lv_iload_n hx hb d_oc_checkStop_4 rfl (lv_at hl 1 rfl) ?_
    refine lv_aload_n hx hb d_oc_checkStop_5 rfl (lv_at hl 0 rfl) ?_
    refine va_get (D := (dC, dI)) (ci := 5) (v := .ref (s0)) (C := "OrganConsole") (T := T_oc) (N := 10) hx hb htb in_oc hown hK hP 0 rfl rfl 1 (by decide) (htb _ tw_188) (fun _ h9 => h9) rfl d_oc_checkStop_6 ?_
    refine va_get (D := (dC, dI)) (ci := 3) (v := .int (iI (((n : Nat) : Int)))) (C := "OrganConsole$Stops") (T := T_st) (N := 9) hx hb htb in_st hown hK hP 6 rfl rfl 7 (by decide) (htb _ tw_110) (fun _ h9 => h9) rfl d_oc_checkStop_9 ?_
    refine xi_icmp_lt (tgt := 26) hx hb ⟨by omega, by omega⟩ ⟨by omega, by omega⟩ d_oc_checkStop_12 (by decide) (fun u_2 => ?_) (fun u_2 => ?_)
    · skip
      exfalso; first | omega | simp_all
    · skip
      exact ex_throwW hx hb htr hown htb hB (Or.inl rfl) tw_295 tw_337 (by decide) (Nat.le_refl _) ⟨Nat.le_of_ble_eq_true rfl, Nat.le_of_ble_eq_true rfl⟩ (hl.1.trans hml.symm) hno hlocks rfl (Nat.le_of_ble_eq_true rfl) (Nat.le_of_ble_eq_true rfl) (Nat.le_of_ble_eq_true rfl) (Nat.le_of_ble_eq_true rfl) d_oc_checkStop_15 d_oc_checkStop_18 d_oc_checkStop_19 d_oc_checkStop_22 d_oc_checkStop_25

set_option maxHeartbeats 200000 in
set_option maxRecDepth 100000 in
theorem c_oc_checkPiston (l : Launch) (dC : Nat → ClassId) (dI : Nat → Nat → Nat) (cI cL cZ : ClassId) (o0 l0 : Nat) (lv cu pe : Int) (lk fo : Bool) (li : Nat → Int) (k0 k1 k2 k3 k4 : Nat) (g : Nat → Nat → Bool) (fr tt sh : Nat → Int) (nc : Nat) (tb : Nat → Bool) (hok : kwOk g fr tt sh nc) (s0 s1 s2 s3 s4 s5 s6 s7 : Nat) (fd fs fl fh ft fc : Nat → Int) (go : Nat → Nat → Bool) (n : Nat) (kn : Nat → Bool) (hn : n ≤ 48) (hft : ∀ s, 0 ≤ ft s ∧ ft s ≤ 3) (hfc : ∀ s, 0 ≤ fc s ∧ fc s ≤ 2) (hsb : ∀ s, 0 ≤ fd s ∧ fd s < 5 ∧ -24 ≤ fs s ∧ fs s ≤ 24 ∧ 0 ≤ fl s ∧ fl s ≤ 96 ∧ 0 ≤ fh s ∧ fh s ≤ 96) (m0 m1 : Nat) (row : Nat → Nat → Bool) (fm : Int) (r0 : Nat) (nf : Int) (c0 c1 c2 c3 c4 : Nat) (fv : Nat → Int) (fz : Nat → Bool) (rw9 : Nat → Nat → Bool) (fw : Int) (d0 d1 d2 d3 d4 : Nat) (gw : Nat → Int) (gz : Nat → Bool) (rx9 : Nat → Nat → Bool) (fx : Int) (hnf : nf = -1 ∨ nf = 0 ∨ nf = 1) (hv : ∀ p, 0 ≤ fv p ∧ fv p ≤ 100000) (hgw : ∀ p, 0 ≤ gw p ∧ gw p ≤ 100000) (hlv : 0 ≤ lv ∧ lv ≤ 7) (hcu : -1 ≤ cu ∧ cu < fm) (hpe : 0 ≤ pe ∧ pe ≤ 15) (hfm : 0 ≤ fm ∧ fm ≤ 100) (hli : ∀ j, 0 ≤ li j ∧ li j ≤ 2) (z : Int) (hz : inI z) (q : Int) (hq : inI q) (hok9 : 0 ≤ q ∧ q < pis z fm) : Met l y_oc_checkPiston (Cond.code y_oc_checkPiston prog_1_method_30_code 3 none :: TB) ({ frames := 1, cells := 0, slots := 0, locals := 21 }) (va_Pc [.ref (o0), .int (iI (z)), .int (iI (q))] (PN dC dI [(o0, .inr (5, [.ref (k0), .ref (s0), .ref (m0), .ref (r0), .ref (l0), .int (iI (lv)), .int (iI (cu)), .int (iI (pe)), .int (bI (lk)), .int (bI (fo))])), (k0, .inr (1, [.ref (k1), .ref (k2), .ref (k3), .ref (k4), .int (iI (((nc : Nat) : Int))), .long (bL (tb))])), (k1, .inl (cL, 5, .inr (.inl (aB (g))))), (k2, .inl (cI, 16, .inl (aI (fr)))), (k3, .inl (cI, 16, .inl (aI (tt)))), (k4, .inl (cI, 16, .inl (aI (sh)))), (s0, .inr (3, [.ref (s1), .ref (s2), .ref (s3), .ref (s4), .ref (s5), .ref (s6), .ref (s7), .int (iI (((n : Nat) : Int))), .long (bL (kn))])), (s1, .inl (cI, 48, .inl (aI (fd)))), (s2, .inl (cI, 48, .inl (aI (fs)))), (s3, .inl (cI, 48, .inl (aI (fl)))), (s4, .inl (cI, 48, .inl (aI (fh)))), (s5, .inl (cI, 48, .inl (aI (ft)))), (s6, .inl (cI, 48, .inl (aI (fc)))), (s7, .inl (cL, 5, .inr (.inl (aB (go))))), (m0, .inr (2, [.ref (m1), .int (iI (fm))])), (m1, .inl (cL, 443, .inr (.inl (aB (row))))), (r0, .inr (4, [.ref (c0), .ref (d0), .int (iI (nf))])), (c0, .inr (0, [.ref (c1), .ref (c2), .ref (c3)])), (c1, .inl (cI, 9, .inl (aI (fv)))), (c2, .inl (cZ, 9, .inl (aZ (fz)))), (c3, .inr (2, [.ref (c4), .int (iI (fw))])), (c4, .inl (cL, 443, .inr (.inl (aB (rw9))))), (d0, .inr (0, [.ref (d1), .ref (d2), .ref (d3)])), (d1, .inl (cI, 9, .inl (aI (gw)))), (d2, .inl (cZ, 9, .inl (aZ (gz)))), (d3, .inr (2, [.ref (d4), .int (iI (fx))])), (d4, .inl (cL, 443, .inr (.inl (aB (rx9))))), (l0, .inl (cI, 40, .inl (aI (li))))] [(cI, .int), (cL, .long), (cZ, .boolean)])) QN 0 0 (fun _ => False) := by
  refine Met.ofW (cc := prog_1_method_30_code) (maxL := 3) (ret := none) (by decide) rfl ?_
  intro p e s m args below meth c s₁ B hml hv
  obtain ⟨ha, hP, hK, hN⟩ := hv
  have hx := B.exec
  have hb := B.bytes
  have hr := B.returns
  have htb : ∀ w ∈ TB, w.before args s = true := fun w h => atoms_spec (ws := Cond.code y_oc_checkPiston prog_1_method_30_code 3 none :: TB) B.pre w (List.mem_cons_of_mem _ h)
  have hown : s.vm.findClass "OrganConsole" = some m.cls := findClass_of_methodNamed B.named
  have hlocks := B.notSynchronized
  have hl := lv_entry ([.ref (o0), .int (iI (z)), .int (iI (q))]) (n := 3) (Nat.le_of_ble_eq_true rfl)
  refine W.eq (g2 := F0 m 0 _ []) (by rw [ha]; exact lg_entry_eq m ([.ref (o0), .int (iI (z)), .int (iI (q))]) 3) ?_
  generalize (lg_sl ([.ref (o0), .int (iI (z)), .int (iI (q))]) ++ List.replicate (3 - (lg_sl ([.ref (o0), .int (iI (z)), .int (iI (q))])).length) Slot.unset).toArray = ls at hl ⊢
  have hl : lv_has ls 3 [(0, .ref (o0)), (1, .int (iI (z))), (2, .int (iI (q)))] := hl
  obtain ⟨hz1, hz2⟩ := hz
  obtain ⟨hq1, hq2⟩ := hq
  have hpi : 0 ≤ pis z fm ∧ pis z fm ≤ 100 := pis_in hfm.1 hfm.2
  refine lv_iload_n hx hb d_oc_checkPiston_0 rfl (lv_at hl 2 rfl) ?_
  refine xi_if_lt (tgt := 13) hx hb ⟨by omega, by omega⟩ d_oc_checkPiston_1 (by decide) (fun u_1 => ?_) (fun u_1 => ?_)
  · skip
    exfalso; first | omega | simp_all
  · skip
    refine lv_iload_n hx hb d_oc_checkPiston_4 rfl (lv_at hl 2 rfl) ?_
    refine lv_aload_n hx hb d_oc_checkPiston_5 rfl (lv_at hl 0 rfl) ?_
    refine lv_iload_n hx hb d_oc_checkPiston_6 rfl (lv_at hl 1 rfl) ?_
    refine pcV hx hb hml hown htb (c_oc_pistonsOf l dC dI cI cL cZ o0 l0 lv cu pe lk fo li k0 k1 k2 k3 k4 g fr tt sh nc tb hok s0 s1 s2 s3 s4 s5 s6 s7 fd fs fl fh ft fc go n kn hn hft hfc hsb m0 m1 row fm r0 nf c0 c1 c2 c3 c4 fv fz rw9 fw d0 d1 d2 d3 d4 gw gz rx9 fx hnf hv hgw hlv hcu hpe hfm hli z ⟨by omega, by omega⟩) tw_466 tw_468 tw_5 tw_34 tw_469 1 (by decide +kernel) rfl rfl ⟨Nat.le_of_ble_eq_true rfl, Nat.le_of_ble_eq_true rfl⟩ ⟨Nat.zero_le _, Nat.zero_le _⟩ [.int (iI (z))] (PW_V (q0 := 0) (ci := 5) hP hP hK rfl rfl) rfl hl.1 rfl (Nat.le_of_ble_eq_true rfl) d_oc_checkPiston_7 ?_
    refine xi_icmp_lt (tgt := 24) hx hb ⟨by omega, by omega⟩ ⟨by omega, by omega⟩ d_oc_checkPiston_10 (by decide) (fun u_2 => ?_) (fun u_2 => ?_)
    · skip
      exact W.vret hx hb hr (fun t ht hW => ⟨rfl, ht⟩) t_nil d_oc_checkPiston_24
    · skip
      exfalso; first | omega | simp_all

set_option maxHeartbeats 200000 in
set_option maxRecDepth 100000 in
theorem x_oc_checkPiston (l : Launch) (htr : l.stackTraces = false) (dC : Nat → ClassId) (dI : Nat → Nat → Nat) (cI cL cZ : ClassId) (o0 l0 : Nat) (lv cu pe : Int) (lk fo : Bool) (li : Nat → Int) (k0 k1 k2 k3 k4 : Nat) (g : Nat → Nat → Bool) (fr tt sh : Nat → Int) (nc : Nat) (tb : Nat → Bool) (hok : kwOk g fr tt sh nc) (s0 s1 s2 s3 s4 s5 s6 s7 : Nat) (fd fs fl fh ft fc : Nat → Int) (go : Nat → Nat → Bool) (n : Nat) (kn : Nat → Bool) (hn : n ≤ 48) (hft : ∀ s, 0 ≤ ft s ∧ ft s ≤ 3) (hfc : ∀ s, 0 ≤ fc s ∧ fc s ≤ 2) (hsb : ∀ s, 0 ≤ fd s ∧ fd s < 5 ∧ -24 ≤ fs s ∧ fs s ≤ 24 ∧ 0 ≤ fl s ∧ fl s ≤ 96 ∧ 0 ≤ fh s ∧ fh s ≤ 96) (m0 m1 : Nat) (row : Nat → Nat → Bool) (fm : Int) (r0 : Nat) (nf : Int) (c0 c1 c2 c3 c4 : Nat) (fv : Nat → Int) (fz : Nat → Bool) (rw9 : Nat → Nat → Bool) (fw : Int) (d0 d1 d2 d3 d4 : Nat) (gw : Nat → Int) (gz : Nat → Bool) (rx9 : Nat → Nat → Bool) (fx : Int) (hnf : nf = -1 ∨ nf = 0 ∨ nf = 1) (hv : ∀ p, 0 ≤ fv p ∧ fv p ≤ 100000) (hgw : ∀ p, 0 ≤ gw p ∧ gw p ≤ 100000) (hlv : 0 ≤ lv ∧ lv ≤ 7) (hcu : -1 ≤ cu ∧ cu < fm) (hpe : 0 ≤ pe ∧ pe ≤ 15) (hfm : 0 ≤ fm ∧ fm ≤ 100) (hli : ∀ j, 0 ≤ li j ∧ li j ≤ 2) (z : Int) (hz : inI z) (q : Int) (hq : inI q) (hbad : ¬ (0 ≤ q ∧ q < pis z fm)) : ex_Met l y_oc_checkPiston (Cond.code y_oc_checkPiston prog_1_method_30_code 3 none :: TB) ({ frames := 6, cells := 1, slots := 6, locals := 90 }) (va_Pc [.ref (o0), .int (iI (z)), .int (iI (q))] (PT dC dI [(o0, .inr (5, [.ref (k0), .ref (s0), .ref (m0), .ref (r0), .ref (l0), .int (iI (lv)), .int (iI (cu)), .int (iI (pe)), .int (bI (lk)), .int (bI (fo))])), (k0, .inr (1, [.ref (k1), .ref (k2), .ref (k3), .ref (k4), .int (iI (((nc : Nat) : Int))), .long (bL (tb))])), (k1, .inl (cL, 5, .inr (.inl (aB (g))))), (k2, .inl (cI, 16, .inl (aI (fr)))), (k3, .inl (cI, 16, .inl (aI (tt)))), (k4, .inl (cI, 16, .inl (aI (sh)))), (s0, .inr (3, [.ref (s1), .ref (s2), .ref (s3), .ref (s4), .ref (s5), .ref (s6), .ref (s7), .int (iI (((n : Nat) : Int))), .long (bL (kn))])), (s1, .inl (cI, 48, .inl (aI (fd)))), (s2, .inl (cI, 48, .inl (aI (fs)))), (s3, .inl (cI, 48, .inl (aI (fl)))), (s4, .inl (cI, 48, .inl (aI (fh)))), (s5, .inl (cI, 48, .inl (aI (ft)))), (s6, .inl (cI, 48, .inl (aI (fc)))), (s7, .inl (cL, 5, .inr (.inl (aB (go))))), (m0, .inr (2, [.ref (m1), .int (iI (fm))])), (m1, .inl (cL, 443, .inr (.inl (aB (row))))), (r0, .inr (4, [.ref (c0), .ref (d0), .int (iI (nf))])), (c0, .inr (0, [.ref (c1), .ref (c2), .ref (c3)])), (c1, .inl (cI, 9, .inl (aI (fv)))), (c2, .inl (cZ, 9, .inl (aZ (fz)))), (c3, .inr (2, [.ref (c4), .int (iI (fw))])), (c4, .inl (cL, 443, .inr (.inl (aB (rw9))))), (d0, .inr (0, [.ref (d1), .ref (d2), .ref (d3)])), (d1, .inl (cI, 9, .inl (aI (gw)))), (d2, .inl (cZ, 9, .inl (aZ (gz)))), (d3, .inr (2, [.ref (d4), .int (iI (fx))])), (d4, .inl (cL, 443, .inr (.inl (aB (rx9))))), (l0, .inl (cI, 40, .inl (aI (li))))] [(cI, .int), (cL, .long), (cZ, .boolean)])) (fun _ _ _ _ => False) (fun E9 => E9 = "java/util/NoSuchElementException") 1 6 (fun _ => False) := by
  refine ex_ofW (cc := prog_1_method_30_code) (maxL := 3) (ret := none) (by decide) rfl ?_
  intro p e s m args below meth c s₁ B hml hno hv
  obtain ⟨ha, hP, hK, hN, hB⟩ := hv
  have hx := B.exec
  have hb := B.bytes
  have hr := B.returns
  have htb : ∀ w ∈ TB, w.before args s = true := fun w h => atoms_spec (ws := Cond.code y_oc_checkPiston prog_1_method_30_code 3 none :: TB) B.pre w (List.mem_cons_of_mem _ h)
  have hown : s.vm.findClass "OrganConsole" = some m.cls := findClass_of_methodNamed B.named
  have hlocks := B.notSynchronized
  have hl := lv_entry ([.ref (o0), .int (iI (z)), .int (iI (q))]) (n := 3) (Nat.le_of_ble_eq_true rfl)
  refine W.eq (g2 := F0 m 0 _ []) (by rw [ha]; exact lg_entry_eq m ([.ref (o0), .int (iI (z)), .int (iI (q))]) 3) ?_
  generalize (lg_sl ([.ref (o0), .int (iI (z)), .int (iI (q))]) ++ List.replicate (3 - (lg_sl ([.ref (o0), .int (iI (z)), .int (iI (q))])).length) Slot.unset).toArray = ls at hl ⊢
  have hl : lv_has ls 3 [(0, .ref (o0)), (1, .int (iI (z))), (2, .int (iI (q)))] := hl
  obtain ⟨hz1, hz2⟩ := hz
  obtain ⟨hq1, hq2⟩ := hq
  have hpi : 0 ≤ pis z fm ∧ pis z fm ≤ 100 := pis_in hfm.1 hfm.2
  refine lv_iload_n hx hb d_oc_checkPiston_0 rfl (lv_at hl 2 rfl) ?_
  refine xi_if_lt (tgt := 13) hx hb ⟨by omega, by omega⟩ d_oc_checkPiston_1 (by decide) (fun u_1 => ?_) (fun u_1 => ?_)
  · skip
    exact ex_throwW hx hb htr hown htb hB (Or.inl rfl) tw_295 tw_337 (by decide) (Nat.le_refl _) ⟨Nat.le_of_ble_eq_true rfl, Nat.le_of_ble_eq_true rfl⟩ (hl.1.trans hml.symm) hno hlocks rfl (Nat.le_of_ble_eq_true rfl) (Nat.le_of_ble_eq_true rfl) (Nat.le_of_ble_eq_true rfl) (Nat.le_of_ble_eq_true rfl) d_oc_checkPiston_13 d_oc_checkPiston_16 d_oc_checkPiston_17 d_oc_checkPiston_20 d_oc_checkPiston_23
  · skip
    refine lv_iload_n hx hb d_oc_checkPiston_4 rfl (lv_at hl 2 rfl) ?_
    refine lv_aload_n hx hb d_oc_checkPiston_5 rfl (lv_at hl 0 rfl) ?_
    refine lv_iload_n hx hb d_oc_checkPiston_6 rfl (lv_at hl 1 rfl) ?_
    refine pcV hx hb hml hown htb (c_oc_pistonsOf l dC dI cI cL cZ o0 l0 lv cu pe lk fo li k0 k1 k2 k3 k4 g fr tt sh nc tb hok s0 s1 s2 s3 s4 s5 s6 s7 fd fs fl fh ft fc go n kn hn hft hfc hsb m0 m1 row fm r0 nf c0 c1 c2 c3 c4 fv fz rw9 fw d0 d1 d2 d3 d4 gw gz rx9 fx hnf hv hgw hlv hcu hpe hfm hli z ⟨by omega, by omega⟩) tw_466 tw_468 tw_5 tw_34 tw_469 1 (by decide +kernel) rfl rfl ⟨Nat.le_of_ble_eq_true rfl, Nat.le_of_ble_eq_true rfl⟩ ⟨Nat.zero_le _, Nat.zero_le _⟩ [.int (iI (z))] (PW_V (q0 := 0) (ci := 5) hP hP hK rfl rfl) rfl hl.1 rfl (Nat.le_of_ble_eq_true rfl) d_oc_checkPiston_7 ?_
    refine xi_icmp_lt (tgt := 24) hx hb ⟨by omega, by omega⟩ ⟨by omega, by omega⟩ d_oc_checkPiston_10 (by decide) (fun u_2 => ?_) (fun u_2 => ?_)
    · skip
      exfalso; first | omega | simp_all
    · skip
      exact ex_throwW hx hb htr hown htb hB (Or.inl rfl) tw_295 tw_337 (by decide) (Nat.le_refl _) ⟨Nat.le_of_ble_eq_true rfl, Nat.le_of_ble_eq_true rfl⟩ (hl.1.trans hml.symm) hno hlocks rfl (Nat.le_of_ble_eq_true rfl) (Nat.le_of_ble_eq_true rfl) (Nat.le_of_ble_eq_true rfl) (Nat.le_of_ble_eq_true rfl) d_oc_checkPiston_13 d_oc_checkPiston_16 d_oc_checkPiston_17 d_oc_checkPiston_20 d_oc_checkPiston_23

set_option maxHeartbeats 200000 in
set_option maxRecDepth 100000 in
theorem c_oc_checkWire (l : Launch) (dC : Nat → ClassId) (dI : Nat → Nat → Nat) (cI cL cZ : ClassId) (o0 l0 : Nat) (lv cu pe : Int) (lk fo : Bool) (li : Nat → Int) (k0 k1 k2 k3 k4 : Nat) (g : Nat → Nat → Bool) (fr tt sh : Nat → Int) (nc : Nat) (tb : Nat → Bool) (hok : kwOk g fr tt sh nc) (s0 s1 s2 s3 s4 s5 s6 s7 : Nat) (fd fs fl fh ft fc : Nat → Int) (go : Nat → Nat → Bool) (n : Nat) (kn : Nat → Bool) (hn : n ≤ 48) (hft : ∀ s, 0 ≤ ft s ∧ ft s ≤ 3) (hfc : ∀ s, 0 ≤ fc s ∧ fc s ≤ 2) (hsb : ∀ s, 0 ≤ fd s ∧ fd s < 5 ∧ -24 ≤ fs s ∧ fs s ≤ 24 ∧ 0 ≤ fl s ∧ fl s ≤ 96 ∧ 0 ≤ fh s ∧ fh s ≤ 96) (m0 m1 : Nat) (row : Nat → Nat → Bool) (fm : Int) (r0 : Nat) (nf : Int) (c0 c1 c2 c3 c4 : Nat) (fv : Nat → Int) (fz : Nat → Bool) (rw9 : Nat → Nat → Bool) (fw : Int) (d0 d1 d2 d3 d4 : Nat) (gw : Nat → Int) (gz : Nat → Bool) (rx9 : Nat → Nat → Bool) (fx : Int) (hnf : nf = -1 ∨ nf = 0 ∨ nf = 1) (hv : ∀ p, 0 ≤ fv p ∧ fv p ≤ 100000) (hgw : ∀ p, 0 ≤ gw p ∧ gw p ≤ 100000) (hlv : 0 ≤ lv ∧ lv ≤ 7) (hcu : -1 ≤ cu ∧ cu < fm) (hpe : 0 ≤ pe ∧ pe ≤ 15) (hfm : 0 ≤ fm ∧ fm ≤ 100) (hli : ∀ j, 0 ≤ li j ∧ li j ≤ 2) (z : Int) (hz : inI z) (q : Int) (hq : inI q) (hok9 : 0 ≤ q ∧ q < wis z n) : Met l y_oc_checkWire (Cond.code y_oc_checkWire prog_1_method_31_code 3 none :: TB) ({ frames := 1, cells := 0, slots := 0, locals := 21 }) (va_Pc [.ref (o0), .int (iI (z)), .int (iI (q))] (PN dC dI [(o0, .inr (5, [.ref (k0), .ref (s0), .ref (m0), .ref (r0), .ref (l0), .int (iI (lv)), .int (iI (cu)), .int (iI (pe)), .int (bI (lk)), .int (bI (fo))])), (k0, .inr (1, [.ref (k1), .ref (k2), .ref (k3), .ref (k4), .int (iI (((nc : Nat) : Int))), .long (bL (tb))])), (k1, .inl (cL, 5, .inr (.inl (aB (g))))), (k2, .inl (cI, 16, .inl (aI (fr)))), (k3, .inl (cI, 16, .inl (aI (tt)))), (k4, .inl (cI, 16, .inl (aI (sh)))), (s0, .inr (3, [.ref (s1), .ref (s2), .ref (s3), .ref (s4), .ref (s5), .ref (s6), .ref (s7), .int (iI (((n : Nat) : Int))), .long (bL (kn))])), (s1, .inl (cI, 48, .inl (aI (fd)))), (s2, .inl (cI, 48, .inl (aI (fs)))), (s3, .inl (cI, 48, .inl (aI (fl)))), (s4, .inl (cI, 48, .inl (aI (fh)))), (s5, .inl (cI, 48, .inl (aI (ft)))), (s6, .inl (cI, 48, .inl (aI (fc)))), (s7, .inl (cL, 5, .inr (.inl (aB (go))))), (m0, .inr (2, [.ref (m1), .int (iI (fm))])), (m1, .inl (cL, 443, .inr (.inl (aB (row))))), (r0, .inr (4, [.ref (c0), .ref (d0), .int (iI (nf))])), (c0, .inr (0, [.ref (c1), .ref (c2), .ref (c3)])), (c1, .inl (cI, 9, .inl (aI (fv)))), (c2, .inl (cZ, 9, .inl (aZ (fz)))), (c3, .inr (2, [.ref (c4), .int (iI (fw))])), (c4, .inl (cL, 443, .inr (.inl (aB (rw9))))), (d0, .inr (0, [.ref (d1), .ref (d2), .ref (d3)])), (d1, .inl (cI, 9, .inl (aI (gw)))), (d2, .inl (cZ, 9, .inl (aZ (gz)))), (d3, .inr (2, [.ref (d4), .int (iI (fx))])), (d4, .inl (cL, 443, .inr (.inl (aB (rx9))))), (l0, .inl (cI, 40, .inl (aI (li))))] [(cI, .int), (cL, .long), (cZ, .boolean)])) QN 0 0 (fun _ => False) := by
  refine Met.ofW (cc := prog_1_method_31_code) (maxL := 3) (ret := none) (by decide) rfl ?_
  intro p e s m args below meth c s₁ B hml hv
  obtain ⟨ha, hP, hK, hN⟩ := hv
  have hx := B.exec
  have hb := B.bytes
  have hr := B.returns
  have htb : ∀ w ∈ TB, w.before args s = true := fun w h => atoms_spec (ws := Cond.code y_oc_checkWire prog_1_method_31_code 3 none :: TB) B.pre w (List.mem_cons_of_mem _ h)
  have hown : s.vm.findClass "OrganConsole" = some m.cls := findClass_of_methodNamed B.named
  have hlocks := B.notSynchronized
  have hl := lv_entry ([.ref (o0), .int (iI (z)), .int (iI (q))]) (n := 3) (Nat.le_of_ble_eq_true rfl)
  refine W.eq (g2 := F0 m 0 _ []) (by rw [ha]; exact lg_entry_eq m ([.ref (o0), .int (iI (z)), .int (iI (q))]) 3) ?_
  generalize (lg_sl ([.ref (o0), .int (iI (z)), .int (iI (q))]) ++ List.replicate (3 - (lg_sl ([.ref (o0), .int (iI (z)), .int (iI (q))])).length) Slot.unset).toArray = ls at hl ⊢
  have hl : lv_has ls 3 [(0, .ref (o0)), (1, .int (iI (z))), (2, .int (iI (q)))] := hl
  obtain ⟨hz1, hz2⟩ := hz
  obtain ⟨hq1, hq2⟩ := hq
  have hwi : 0 ≤ wis z n ∧ wis z n ≤ 48 := wis_in hn
  refine lv_iload_n hx hb d_oc_checkWire_0 rfl (lv_at hl 2 rfl) ?_
  refine xi_if_lt (tgt := 13) hx hb ⟨by omega, by omega⟩ d_oc_checkWire_1 (by decide) (fun u_1 => ?_) (fun u_1 => ?_)
  · skip
    exfalso; first | omega | simp_all
  · skip
    refine lv_iload_n hx hb d_oc_checkWire_4 rfl (lv_at hl 2 rfl) ?_
    refine lv_aload_n hx hb d_oc_checkWire_5 rfl (lv_at hl 0 rfl) ?_
    refine lv_iload_n hx hb d_oc_checkWire_6 rfl (lv_at hl 1 rfl) ?_
    refine pcV hx hb hml hown htb (c_oc_wiresOf l dC dI cI cL cZ o0 l0 lv cu pe lk fo li k0 k1 k2 k3 k4 g fr tt sh nc tb hok s0 s1 s2 s3 s4 s5 s6 s7 fd fs fl fh ft fc go n kn hn hft hfc hsb m0 m1 row fm r0 nf c0 c1 c2 c3 c4 fv fz rw9 fw d0 d1 d2 d3 d4 gw gz rx9 fx hnf hv hgw hlv hcu hpe hfm hli z ⟨by omega, by omega⟩) tw_703 tw_705 tw_15 tw_34 tw_706 1 (by decide +kernel) rfl rfl ⟨Nat.le_of_ble_eq_true rfl, Nat.le_of_ble_eq_true rfl⟩ ⟨Nat.zero_le _, Nat.zero_le _⟩ [.int (iI (z))] (PW_V (q0 := 0) (ci := 5) hP hP hK rfl rfl) rfl hl.1 rfl (Nat.le_of_ble_eq_true rfl) d_oc_checkWire_7 ?_
    refine xi_icmp_lt (tgt := 24) hx hb ⟨by omega, by omega⟩ ⟨by omega, by omega⟩ d_oc_checkWire_10 (by decide) (fun u_2 => ?_) (fun u_2 => ?_)
    · skip
      exact W.vret hx hb hr (fun t ht hW => ⟨rfl, ht⟩) t_nil d_oc_checkWire_24
    · skip
      exfalso; first | omega | simp_all

set_option maxHeartbeats 200000 in
set_option maxRecDepth 100000 in
theorem x_oc_checkWire (l : Launch) (htr : l.stackTraces = false) (dC : Nat → ClassId) (dI : Nat → Nat → Nat) (cI cL cZ : ClassId) (o0 l0 : Nat) (lv cu pe : Int) (lk fo : Bool) (li : Nat → Int) (k0 k1 k2 k3 k4 : Nat) (g : Nat → Nat → Bool) (fr tt sh : Nat → Int) (nc : Nat) (tb : Nat → Bool) (hok : kwOk g fr tt sh nc) (s0 s1 s2 s3 s4 s5 s6 s7 : Nat) (fd fs fl fh ft fc : Nat → Int) (go : Nat → Nat → Bool) (n : Nat) (kn : Nat → Bool) (hn : n ≤ 48) (hft : ∀ s, 0 ≤ ft s ∧ ft s ≤ 3) (hfc : ∀ s, 0 ≤ fc s ∧ fc s ≤ 2) (hsb : ∀ s, 0 ≤ fd s ∧ fd s < 5 ∧ -24 ≤ fs s ∧ fs s ≤ 24 ∧ 0 ≤ fl s ∧ fl s ≤ 96 ∧ 0 ≤ fh s ∧ fh s ≤ 96) (m0 m1 : Nat) (row : Nat → Nat → Bool) (fm : Int) (r0 : Nat) (nf : Int) (c0 c1 c2 c3 c4 : Nat) (fv : Nat → Int) (fz : Nat → Bool) (rw9 : Nat → Nat → Bool) (fw : Int) (d0 d1 d2 d3 d4 : Nat) (gw : Nat → Int) (gz : Nat → Bool) (rx9 : Nat → Nat → Bool) (fx : Int) (hnf : nf = -1 ∨ nf = 0 ∨ nf = 1) (hv : ∀ p, 0 ≤ fv p ∧ fv p ≤ 100000) (hgw : ∀ p, 0 ≤ gw p ∧ gw p ≤ 100000) (hlv : 0 ≤ lv ∧ lv ≤ 7) (hcu : -1 ≤ cu ∧ cu < fm) (hpe : 0 ≤ pe ∧ pe ≤ 15) (hfm : 0 ≤ fm ∧ fm ≤ 100) (hli : ∀ j, 0 ≤ li j ∧ li j ≤ 2) (z : Int) (hz : inI z) (q : Int) (hq : inI q) (hbad : ¬ (0 ≤ q ∧ q < wis z n)) : ex_Met l y_oc_checkWire (Cond.code y_oc_checkWire prog_1_method_31_code 3 none :: TB) ({ frames := 6, cells := 1, slots := 6, locals := 90 }) (va_Pc [.ref (o0), .int (iI (z)), .int (iI (q))] (PT dC dI [(o0, .inr (5, [.ref (k0), .ref (s0), .ref (m0), .ref (r0), .ref (l0), .int (iI (lv)), .int (iI (cu)), .int (iI (pe)), .int (bI (lk)), .int (bI (fo))])), (k0, .inr (1, [.ref (k1), .ref (k2), .ref (k3), .ref (k4), .int (iI (((nc : Nat) : Int))), .long (bL (tb))])), (k1, .inl (cL, 5, .inr (.inl (aB (g))))), (k2, .inl (cI, 16, .inl (aI (fr)))), (k3, .inl (cI, 16, .inl (aI (tt)))), (k4, .inl (cI, 16, .inl (aI (sh)))), (s0, .inr (3, [.ref (s1), .ref (s2), .ref (s3), .ref (s4), .ref (s5), .ref (s6), .ref (s7), .int (iI (((n : Nat) : Int))), .long (bL (kn))])), (s1, .inl (cI, 48, .inl (aI (fd)))), (s2, .inl (cI, 48, .inl (aI (fs)))), (s3, .inl (cI, 48, .inl (aI (fl)))), (s4, .inl (cI, 48, .inl (aI (fh)))), (s5, .inl (cI, 48, .inl (aI (ft)))), (s6, .inl (cI, 48, .inl (aI (fc)))), (s7, .inl (cL, 5, .inr (.inl (aB (go))))), (m0, .inr (2, [.ref (m1), .int (iI (fm))])), (m1, .inl (cL, 443, .inr (.inl (aB (row))))), (r0, .inr (4, [.ref (c0), .ref (d0), .int (iI (nf))])), (c0, .inr (0, [.ref (c1), .ref (c2), .ref (c3)])), (c1, .inl (cI, 9, .inl (aI (fv)))), (c2, .inl (cZ, 9, .inl (aZ (fz)))), (c3, .inr (2, [.ref (c4), .int (iI (fw))])), (c4, .inl (cL, 443, .inr (.inl (aB (rw9))))), (d0, .inr (0, [.ref (d1), .ref (d2), .ref (d3)])), (d1, .inl (cI, 9, .inl (aI (gw)))), (d2, .inl (cZ, 9, .inl (aZ (gz)))), (d3, .inr (2, [.ref (d4), .int (iI (fx))])), (d4, .inl (cL, 443, .inr (.inl (aB (rx9))))), (l0, .inl (cI, 40, .inl (aI (li))))] [(cI, .int), (cL, .long), (cZ, .boolean)])) (fun _ _ _ _ => False) (fun E9 => E9 = "java/util/NoSuchElementException") 1 6 (fun _ => False) := by
  refine ex_ofW (cc := prog_1_method_31_code) (maxL := 3) (ret := none) (by decide) rfl ?_
  intro p e s m args below meth c s₁ B hml hno hv
  obtain ⟨ha, hP, hK, hN, hB⟩ := hv
  have hx := B.exec
  have hb := B.bytes
  have hr := B.returns
  have htb : ∀ w ∈ TB, w.before args s = true := fun w h => atoms_spec (ws := Cond.code y_oc_checkWire prog_1_method_31_code 3 none :: TB) B.pre w (List.mem_cons_of_mem _ h)
  have hown : s.vm.findClass "OrganConsole" = some m.cls := findClass_of_methodNamed B.named
  have hlocks := B.notSynchronized
  have hl := lv_entry ([.ref (o0), .int (iI (z)), .int (iI (q))]) (n := 3) (Nat.le_of_ble_eq_true rfl)
  refine W.eq (g2 := F0 m 0 _ []) (by rw [ha]; exact lg_entry_eq m ([.ref (o0), .int (iI (z)), .int (iI (q))]) 3) ?_
  generalize (lg_sl ([.ref (o0), .int (iI (z)), .int (iI (q))]) ++ List.replicate (3 - (lg_sl ([.ref (o0), .int (iI (z)), .int (iI (q))])).length) Slot.unset).toArray = ls at hl ⊢
  have hl : lv_has ls 3 [(0, .ref (o0)), (1, .int (iI (z))), (2, .int (iI (q)))] := hl
  obtain ⟨hz1, hz2⟩ := hz
  obtain ⟨hq1, hq2⟩ := hq
  have hwi : 0 ≤ wis z n ∧ wis z n ≤ 48 := wis_in hn
  refine lv_iload_n hx hb d_oc_checkWire_0 rfl (lv_at hl 2 rfl) ?_
  refine xi_if_lt (tgt := 13) hx hb ⟨by omega, by omega⟩ d_oc_checkWire_1 (by decide) (fun u_1 => ?_) (fun u_1 => ?_)
  · skip
    exact ex_throwW hx hb htr hown htb hB (Or.inl rfl) tw_295 tw_337 (by decide) (Nat.le_refl _) ⟨Nat.le_of_ble_eq_true rfl, Nat.le_of_ble_eq_true rfl⟩ (hl.1.trans hml.symm) hno hlocks rfl (Nat.le_of_ble_eq_true rfl) (Nat.le_of_ble_eq_true rfl) (Nat.le_of_ble_eq_true rfl) (Nat.le_of_ble_eq_true rfl) d_oc_checkWire_13 d_oc_checkWire_16 d_oc_checkWire_17 d_oc_checkWire_20 d_oc_checkWire_23
  · skip
    refine lv_iload_n hx hb d_oc_checkWire_4 rfl (lv_at hl 2 rfl) ?_
    refine lv_aload_n hx hb d_oc_checkWire_5 rfl (lv_at hl 0 rfl) ?_
    refine lv_iload_n hx hb d_oc_checkWire_6 rfl (lv_at hl 1 rfl) ?_
    refine pcV hx hb hml hown htb (c_oc_wiresOf l dC dI cI cL cZ o0 l0 lv cu pe lk fo li k0 k1 k2 k3 k4 g fr tt sh nc tb hok s0 s1 s2 s3 s4 s5 s6 s7 fd fs fl fh ft fc go n kn hn hft hfc hsb m0 m1 row fm r0 nf c0 c1 c2 c3 c4 fv fz rw9 fw d0 d1 d2 d3 d4 gw gz rx9 fx hnf hv hgw hlv hcu hpe hfm hli z ⟨by omega, by omega⟩) tw_703 tw_705 tw_15 tw_34 tw_706 1 (by decide +kernel) rfl rfl ⟨Nat.le_of_ble_eq_true rfl, Nat.le_of_ble_eq_true rfl⟩ ⟨Nat.zero_le _, Nat.zero_le _⟩ [.int (iI (z))] (PW_V (q0 := 0) (ci := 5) hP hP hK rfl rfl) rfl hl.1 rfl (Nat.le_of_ble_eq_true rfl) d_oc_checkWire_7 ?_
    refine xi_icmp_lt (tgt := 24) hx hb ⟨by omega, by omega⟩ ⟨by omega, by omega⟩ d_oc_checkWire_10 (by decide) (fun u_2 => ?_) (fun u_2 => ?_)
    · skip
      exfalso; first | omega | simp_all
    · skip
      exact ex_throwW hx hb htr hown htb hB (Or.inl rfl) tw_295 tw_337 (by decide) (Nat.le_refl _) ⟨Nat.le_of_ble_eq_true rfl, Nat.le_of_ble_eq_true rfl⟩ (hl.1.trans hml.symm) hno hlocks rfl (Nat.le_of_ble_eq_true rfl) (Nat.le_of_ble_eq_true rfl) (Nat.le_of_ble_eq_true rfl) (Nat.le_of_ble_eq_true rfl) d_oc_checkWire_13 d_oc_checkWire_16 d_oc_checkWire_17 d_oc_checkWire_20 d_oc_checkWire_23

set_option maxHeartbeats 200000 in
set_option maxRecDepth 100000 in
theorem c_oc_checkUnlocked (l : Launch) (dC : Nat → ClassId) (dI : Nat → Nat → Nat) (cI cL cZ : ClassId) (o0 l0 : Nat) (lv cu pe : Int) (lk fo : Bool) (li : Nat → Int) (k0 k1 k2 k3 k4 : Nat) (g : Nat → Nat → Bool) (fr tt sh : Nat → Int) (nc : Nat) (tb : Nat → Bool) (hok : kwOk g fr tt sh nc) (s0 s1 s2 s3 s4 s5 s6 s7 : Nat) (fd fs fl fh ft fc : Nat → Int) (go : Nat → Nat → Bool) (n : Nat) (kn : Nat → Bool) (hn : n ≤ 48) (hft : ∀ s, 0 ≤ ft s ∧ ft s ≤ 3) (hfc : ∀ s, 0 ≤ fc s ∧ fc s ≤ 2) (hsb : ∀ s, 0 ≤ fd s ∧ fd s < 5 ∧ -24 ≤ fs s ∧ fs s ≤ 24 ∧ 0 ≤ fl s ∧ fl s ≤ 96 ∧ 0 ≤ fh s ∧ fh s ≤ 96) (m0 m1 : Nat) (row : Nat → Nat → Bool) (fm : Int) (r0 : Nat) (nf : Int) (c0 c1 c2 c3 c4 : Nat) (fv : Nat → Int) (fz : Nat → Bool) (rw9 : Nat → Nat → Bool) (fw : Int) (d0 d1 d2 d3 d4 : Nat) (gw : Nat → Int) (gz : Nat → Bool) (rx9 : Nat → Nat → Bool) (fx : Int) (hnf : nf = -1 ∨ nf = 0 ∨ nf = 1) (hv : ∀ p, 0 ≤ fv p ∧ fv p ≤ 100000) (hgw : ∀ p, 0 ≤ gw p ∧ gw p ≤ 100000) (hlv : 0 ≤ lv ∧ lv ≤ 7) (hcu : -1 ≤ cu ∧ cu < fm) (hpe : 0 ≤ pe ∧ pe ≤ 15) (hfm : 0 ≤ fm ∧ fm ≤ 100) (hli : ∀ j, 0 ≤ li j ∧ li j ≤ 2) (hok9 : lk = false) : Met l y_oc_checkUnlocked (Cond.code y_oc_checkUnlocked prog_1_method_32_code 1 none :: TB) ({ frames := 0, cells := 0, slots := 0, locals := 0 }) (va_Pc [.ref (o0)] (PN dC dI [(o0, .inr (5, [.ref (k0), .ref (s0), .ref (m0), .ref (r0), .ref (l0), .int (iI (lv)), .int (iI (cu)), .int (iI (pe)), .int (bI (lk)), .int (bI (fo))])), (k0, .inr (1, [.ref (k1), .ref (k2), .ref (k3), .ref (k4), .int (iI (((nc : Nat) : Int))), .long (bL (tb))])), (k1, .inl (cL, 5, .inr (.inl (aB (g))))), (k2, .inl (cI, 16, .inl (aI (fr)))), (k3, .inl (cI, 16, .inl (aI (tt)))), (k4, .inl (cI, 16, .inl (aI (sh)))), (s0, .inr (3, [.ref (s1), .ref (s2), .ref (s3), .ref (s4), .ref (s5), .ref (s6), .ref (s7), .int (iI (((n : Nat) : Int))), .long (bL (kn))])), (s1, .inl (cI, 48, .inl (aI (fd)))), (s2, .inl (cI, 48, .inl (aI (fs)))), (s3, .inl (cI, 48, .inl (aI (fl)))), (s4, .inl (cI, 48, .inl (aI (fh)))), (s5, .inl (cI, 48, .inl (aI (ft)))), (s6, .inl (cI, 48, .inl (aI (fc)))), (s7, .inl (cL, 5, .inr (.inl (aB (go))))), (m0, .inr (2, [.ref (m1), .int (iI (fm))])), (m1, .inl (cL, 443, .inr (.inl (aB (row))))), (r0, .inr (4, [.ref (c0), .ref (d0), .int (iI (nf))])), (c0, .inr (0, [.ref (c1), .ref (c2), .ref (c3)])), (c1, .inl (cI, 9, .inl (aI (fv)))), (c2, .inl (cZ, 9, .inl (aZ (fz)))), (c3, .inr (2, [.ref (c4), .int (iI (fw))])), (c4, .inl (cL, 443, .inr (.inl (aB (rw9))))), (d0, .inr (0, [.ref (d1), .ref (d2), .ref (d3)])), (d1, .inl (cI, 9, .inl (aI (gw)))), (d2, .inl (cZ, 9, .inl (aZ (gz)))), (d3, .inr (2, [.ref (d4), .int (iI (fx))])), (d4, .inl (cL, 443, .inr (.inl (aB (rx9))))), (l0, .inl (cI, 40, .inl (aI (li))))] [(cI, .int), (cL, .long), (cZ, .boolean)])) QN 0 0 (fun _ => False) := by
  refine Met.ofW (cc := prog_1_method_32_code) (maxL := 1) (ret := none) (by decide) rfl ?_
  intro p e s m args below meth c s₁ B hml hv
  obtain ⟨ha, hP, hK, hN⟩ := hv
  have hx := B.exec
  have hb := B.bytes
  have hr := B.returns
  have htb : ∀ w ∈ TB, w.before args s = true := fun w h => atoms_spec (ws := Cond.code y_oc_checkUnlocked prog_1_method_32_code 1 none :: TB) B.pre w (List.mem_cons_of_mem _ h)
  have hown : s.vm.findClass "OrganConsole" = some m.cls := findClass_of_methodNamed B.named
  have hlocks := B.notSynchronized
  have hl := lv_entry ([.ref (o0)]) (n := 1) (Nat.le_of_ble_eq_true rfl)
  refine W.eq (g2 := F0 m 0 _ []) (by rw [ha]; exact lg_entry_eq m ([.ref (o0)]) 1) ?_
  generalize (lg_sl ([.ref (o0)]) ++ List.replicate (1 - (lg_sl ([.ref (o0)])).length) Slot.unset).toArray = ls at hl ⊢
  have hl : lv_has ls 1 [(0, .ref (o0))] := hl
  refine lv_aload_n hx hb d_oc_checkUnlocked_0 rfl (lv_at hl 0 rfl) ?_
  refine va_get (D := (dC, dI)) (ci := 5) (v := .int (bI (lk))) (C := "OrganConsole") (T := T_oc) (N := 10) hx hb htb in_oc hown hK hP 0 rfl rfl 8 (by decide) (htb _ tw_195) (fun _ h9 => h9) rfl d_oc_checkUnlocked_1 ?_
  refine xz_if_eq (tgt := 18) hx hb d_oc_checkUnlocked_4 (by decide) (fun u_1 => ?_) (fun u_1 => ?_)
  · skip
    exact W.vret hx hb hr (fun t ht hW => ⟨rfl, ht⟩) t_nil d_oc_checkUnlocked_18
  · skip
    exfalso; first | omega | simp_all

set_option maxHeartbeats 200000 in
set_option maxRecDepth 100000 in
theorem x_oc_checkUnlocked (l : Launch) (htr : l.stackTraces = false) (dC : Nat → ClassId) (dI : Nat → Nat → Nat) (cI cL cZ : ClassId) (o0 l0 : Nat) (lv cu pe : Int) (lk fo : Bool) (li : Nat → Int) (k0 k1 k2 k3 k4 : Nat) (g : Nat → Nat → Bool) (fr tt sh : Nat → Int) (nc : Nat) (tb : Nat → Bool) (hok : kwOk g fr tt sh nc) (s0 s1 s2 s3 s4 s5 s6 s7 : Nat) (fd fs fl fh ft fc : Nat → Int) (go : Nat → Nat → Bool) (n : Nat) (kn : Nat → Bool) (hn : n ≤ 48) (hft : ∀ s, 0 ≤ ft s ∧ ft s ≤ 3) (hfc : ∀ s, 0 ≤ fc s ∧ fc s ≤ 2) (hsb : ∀ s, 0 ≤ fd s ∧ fd s < 5 ∧ -24 ≤ fs s ∧ fs s ≤ 24 ∧ 0 ≤ fl s ∧ fl s ≤ 96 ∧ 0 ≤ fh s ∧ fh s ≤ 96) (m0 m1 : Nat) (row : Nat → Nat → Bool) (fm : Int) (r0 : Nat) (nf : Int) (c0 c1 c2 c3 c4 : Nat) (fv : Nat → Int) (fz : Nat → Bool) (rw9 : Nat → Nat → Bool) (fw : Int) (d0 d1 d2 d3 d4 : Nat) (gw : Nat → Int) (gz : Nat → Bool) (rx9 : Nat → Nat → Bool) (fx : Int) (hnf : nf = -1 ∨ nf = 0 ∨ nf = 1) (hv : ∀ p, 0 ≤ fv p ∧ fv p ≤ 100000) (hgw : ∀ p, 0 ≤ gw p ∧ gw p ≤ 100000) (hlv : 0 ≤ lv ∧ lv ≤ 7) (hcu : -1 ≤ cu ∧ cu < fm) (hpe : 0 ≤ pe ∧ pe ≤ 15) (hfm : 0 ≤ fm ∧ fm ≤ 100) (hli : ∀ j, 0 ≤ li j ∧ li j ≤ 2) (hbad : ¬ lk = false) : ex_Met l y_oc_checkUnlocked (Cond.code y_oc_checkUnlocked prog_1_method_32_code 1 none :: TB) ({ frames := 6, cells := 1, slots := 6, locals := 90 }) (va_Pc [.ref (o0)] (PT dC dI [(o0, .inr (5, [.ref (k0), .ref (s0), .ref (m0), .ref (r0), .ref (l0), .int (iI (lv)), .int (iI (cu)), .int (iI (pe)), .int (bI (lk)), .int (bI (fo))])), (k0, .inr (1, [.ref (k1), .ref (k2), .ref (k3), .ref (k4), .int (iI (((nc : Nat) : Int))), .long (bL (tb))])), (k1, .inl (cL, 5, .inr (.inl (aB (g))))), (k2, .inl (cI, 16, .inl (aI (fr)))), (k3, .inl (cI, 16, .inl (aI (tt)))), (k4, .inl (cI, 16, .inl (aI (sh)))), (s0, .inr (3, [.ref (s1), .ref (s2), .ref (s3), .ref (s4), .ref (s5), .ref (s6), .ref (s7), .int (iI (((n : Nat) : Int))), .long (bL (kn))])), (s1, .inl (cI, 48, .inl (aI (fd)))), (s2, .inl (cI, 48, .inl (aI (fs)))), (s3, .inl (cI, 48, .inl (aI (fl)))), (s4, .inl (cI, 48, .inl (aI (fh)))), (s5, .inl (cI, 48, .inl (aI (ft)))), (s6, .inl (cI, 48, .inl (aI (fc)))), (s7, .inl (cL, 5, .inr (.inl (aB (go))))), (m0, .inr (2, [.ref (m1), .int (iI (fm))])), (m1, .inl (cL, 443, .inr (.inl (aB (row))))), (r0, .inr (4, [.ref (c0), .ref (d0), .int (iI (nf))])), (c0, .inr (0, [.ref (c1), .ref (c2), .ref (c3)])), (c1, .inl (cI, 9, .inl (aI (fv)))), (c2, .inl (cZ, 9, .inl (aZ (fz)))), (c3, .inr (2, [.ref (c4), .int (iI (fw))])), (c4, .inl (cL, 443, .inr (.inl (aB (rw9))))), (d0, .inr (0, [.ref (d1), .ref (d2), .ref (d3)])), (d1, .inl (cI, 9, .inl (aI (gw)))), (d2, .inl (cZ, 9, .inl (aZ (gz)))), (d3, .inr (2, [.ref (d4), .int (iI (fx))])), (d4, .inl (cL, 443, .inr (.inl (aB (rx9))))), (l0, .inl (cI, 40, .inl (aI (li))))] [(cI, .int), (cL, .long), (cZ, .boolean)])) (fun _ _ _ _ => False) (fun E9 => E9 = "java/lang/IllegalStateException") 1 6 (fun _ => False) := by
  refine ex_ofW (cc := prog_1_method_32_code) (maxL := 1) (ret := none) (by decide) rfl ?_
  intro p e s m args below meth c s₁ B hml hno hv
  obtain ⟨ha, hP, hK, hN, hB⟩ := hv
  have hx := B.exec
  have hb := B.bytes
  have hr := B.returns
  have htb : ∀ w ∈ TB, w.before args s = true := fun w h => atoms_spec (ws := Cond.code y_oc_checkUnlocked prog_1_method_32_code 1 none :: TB) B.pre w (List.mem_cons_of_mem _ h)
  have hown : s.vm.findClass "OrganConsole" = some m.cls := findClass_of_methodNamed B.named
  have hlocks := B.notSynchronized
  have hl := lv_entry ([.ref (o0)]) (n := 1) (Nat.le_of_ble_eq_true rfl)
  refine W.eq (g2 := F0 m 0 _ []) (by rw [ha]; exact lg_entry_eq m ([.ref (o0)]) 1) ?_
  generalize (lg_sl ([.ref (o0)]) ++ List.replicate (1 - (lg_sl ([.ref (o0)])).length) Slot.unset).toArray = ls at hl ⊢
  have hl : lv_has ls 1 [(0, .ref (o0))] := hl
  refine lv_aload_n hx hb d_oc_checkUnlocked_0 rfl (lv_at hl 0 rfl) ?_
  refine va_get (D := (dC, dI)) (ci := 5) (v := .int (bI (lk))) (C := "OrganConsole") (T := T_oc) (N := 10) hx hb htb in_oc hown hK hP 0 rfl rfl 8 (by decide) (htb _ tw_195) (fun _ h9 => h9) rfl d_oc_checkUnlocked_1 ?_
  refine xz_if_eq (tgt := 18) hx hb d_oc_checkUnlocked_4 (by decide) (fun u_1 => ?_) (fun u_1 => ?_)
  · skip
    exfalso; first | omega | simp_all
  · skip
    exact ex_throwW hx hb htr hown htb hB (Or.inr (Or.inr rfl)) tw_383 tw_393 (by decide) (Nat.le_refl _) ⟨Nat.le_of_ble_eq_true rfl, Nat.le_of_ble_eq_true rfl⟩ (hl.1.trans hml.symm) hno hlocks rfl (Nat.le_of_ble_eq_true rfl) (Nat.le_of_ble_eq_true rfl) (Nat.le_of_ble_eq_true rfl) (Nat.le_of_ble_eq_true rfl) d_oc_checkUnlocked_7 d_oc_checkUnlocked_10 d_oc_checkUnlocked_11 d_oc_checkUnlocked_14 d_oc_checkUnlocked_17

