/-! Memory, Copy, Store -/
set_option maxHeartbeats 200000 in
set_option maxRecDepth 100000 in
theorem c_me_openFrame (l : Launch) (dC : Nat → ClassId) (dI : Nat → Nat → Nat) (cI cL cZ : ClassId) (sz : Nat) (m0 m1 : Nat) (row : Nat → Nat → Bool) (fm : Int) (k : Nat) (z : Int) (f : Nat → Bool) (hz : z = (k : Int)) (hk : (k : Int) ≤ fm) (hf1 : fm < 100) : Met l y_me_openFrame (Cond.code y_me_openFrame prog_4_method_7_code 5 none :: TB) ({ frames := 1, cells := 0, slots := 0, locals := 48 }) (va_Pc [.ref (m0), .int (iI (z)), .long (bL (f))] (PS dC dI [(m0, .inr (2, [.ref (m1), .int (iI (fm))])), (m1, .inl (cL, 443, .inr (.inl (aB (row)))))] [(cI, .int), (cL, .long), (cZ, .boolean)] sz)) (QW dC dI none [(m0, .inr (2, [.ref (m1), .int (iI (fm + 1))])), (m1, .inl (cL, 443, .inr (.inl (aB (va_up (va_cpy row row (328 + k) (328 + k + 1) (fm.toNat - k)) (328 + k) f)))))] (va_A [(m0, .inr (2, [.ref (m1), .int (iI (fm))])), (m1, .inl (cL, 443, .inr (.inl (aB (row)))))] sz)) 0 0 (va_A [(m0, .inr (2, [.ref (m1), .int (iI (fm))])), (m1, .inl (cL, 443, .inr (.inl (aB (row)))))] sz) := by
  refine Met.ofW (cc := prog_4_method_7_code) (maxL := 5) (ret := none) (by decide) rfl ?_
  intro p e s m args below meth c s₁ B hml hv
  obtain ⟨ha, hsz, hP, hK, hD0, hN⟩ := hv
  have hx := B.exec
  have hb := B.bytes
  have hr := B.returns
  have htb : ∀ w ∈ TB, w.before args s = true := fun w h => atoms_spec (ws := Cond.code y_me_openFrame prog_4_method_7_code 5 none :: TB) B.pre w (List.mem_cons_of_mem _ h)
  have hown : s.vm.findClass "OrganConsole$Memory" = some m.cls := findClass_of_methodNamed B.named
  have hlocks := B.notSynchronized
  subst hsz
  have hD := hD0.self (sz := s.heap.size)
  generalize hAe : va_A [(m0, .inr (2, [.ref (m1), .int (iI (fm))])), (m1, .inl (cL, 443, .inr (.inl (aB (row)))))] s.heap.size = A at hD ⊢
  have hA : ∀ q : Nat, s.heap.size ≤ q → A q := fun q h => by rw [← hAe]; exact Or.inr h
  have hS : va_S A s.heap s.heap [] := va_S.rf
  have hl := lv_entry ([.ref (m0), .int (iI (z)), .long (bL (f))]) (n := 5) (Nat.le_of_ble_eq_true rfl)
  refine W.eq (g2 := F0 m 0 _ []) (by rw [ha]; exact lg_entry_eq m ([.ref (m0), .int (iI (z)), .long (bL (f))]) 5) ?_
  generalize (lg_sl ([.ref (m0), .int (iI (z)), .long (bL (f))]) ++ List.replicate (5 - (lg_sl ([.ref (m0), .int (iI (z)), .long (bL (f))])).length) Slot.unset).toArray = ls at hl ⊢
  have hl : lv_has ls 5 [(0, .ref (m0)), (1, .int (iI (z))), (2, .long (bL (f)))] := hl
  refine lv_iload_n hx hb d_me_openFrame_0 rfl (lv_at hl 1 rfl) ?_
  refine pcS hx hb hml hown htb (c_me_frameRow l (z)) tw_552 tw_486 tw_37 tw_487 1 (by decide +kernel) rfl rfl ⟨Nat.le_of_ble_eq_true rfl, Nat.le_of_ble_eq_true rfl⟩ ⟨Nat.zero_le _, Nat.zero_le _⟩ [.int (iI (z))] ⟨fun _ _ _ _ q => q, fun U _ _ => ⟨rfl, trivial⟩⟩ rfl hl.1 rfl (Nat.le_of_ble_eq_true rfl) d_me_openFrame_1 ?_
  refine lv_istore hx hb d_me_openFrame_4 hl (by decide) rfl (fun ls hl => ?_)
  have hl : lv_has ls 5 [(4, .int (iI (328 + (z)))), (0, .ref (m0)), (1, .int (iI (z))), (2, .long (bL (f)))] := hl
  refine lv_aload_n hx hb d_me_openFrame_6 rfl (lv_at hl 1 rfl) ?_
  refine va_get (D := (dC, dI)) (ci := 2) (v := .ref (m1)) (C := "OrganConsole$Memory") (T := T_me) (N := 2) hx hb htb in_me hown hK hP 0 rfl rfl 0 (by decide) (htb _ tw_138) (fun _ h9 => h9) rfl d_me_openFrame_7 ?_
  refine lv_iload hx hb d_me_openFrame_10 (lv_at hl 0 rfl) ?_
  refine lv_aload_n hx hb d_me_openFrame_12 rfl (lv_at hl 1 rfl) ?_
  refine va_get (D := (dC, dI)) (ci := 2) (v := .ref (m1)) (C := "OrganConsole$Memory") (T := T_me) (N := 2) hx hb htb in_me hown hK hP 0 rfl rfl 0 (by decide) (htb _ tw_138) (fun _ h9 => h9) rfl d_me_openFrame_13 ?_
  refine lv_iload hx hb d_me_openFrame_16 (lv_at hl 0 rfl) ?_
  refine lv_iconst (v := iI (1)) hx hb d_me_openFrame_18 rfl ?_
  refine xi_add hx hb d_me_openFrame_19 ?_
  refine lv_aload_n hx hb d_me_openFrame_20 rfl (lv_at hl 1 rfl) ?_
  refine va_get (D := (dC, dI)) (ci := 2) (v := .int (iI (fm))) (C := "OrganConsole$Memory") (T := T_me) (N := 2) hx hb htb in_me hown hK hP 0 rfl rfl 1 (by decide) (htb _ tw_140) (fun _ h9 => h9) rfl d_me_openFrame_21 ?_
  refine lv_iload_n hx hb d_me_openFrame_24 rfl (lv_at hl 2 rfl) ?_
  refine xi_sub hx hb d_me_openFrame_25 ?_
  refine xa_bcpy (f := row) (g := row) hx hb (hml.trans hl.1.symm) hown (htb _ tw_261) (htb _ tw_263) (htb _ tw_262) (htb _ tw_48) hK hP hD hS 1 1 1 1 rfl rfl rfl rfl (by decide) (328 + k) (328 + k + 1) (fm.toNat - k) (by omega) (by omega) (by omega) (by omega) (by omega) (by omega) (by omega) (Nat.le_of_ble_eq_true rfl) (Nat.le_of_ble_eq_true rfl) d_me_openFrame_26 (fun H locs hP hD hS => ?_)
  have hP : va_P (dC, dI) vwCl [(m0, .inr (2, [.ref (m1), .int (iI (fm))])), (m1, .inl (cL, 443, .inr (.inl (aB (va_cpy (row) (row) (328 + k) (328 + k + 1) (fm.toNat - k))))))] H := hP
  have hD : va_D A [(m0, .inr (2, [.ref (m1), .int (iI (fm))])), (m1, .inl (cL, 443, .inr (.inl (aB (va_cpy (row) (row) (328 + k) (328 + k + 1) (fm.toNat - k))))))] := hD
  refine lv_aload_n hx hb d_me_openFrame_29 rfl (lv_at hl 1 rfl) ?_
  refine va_get (D := (dC, dI)) (ci := 2) (v := .ref (m1)) (C := "OrganConsole$Memory") (T := T_me) (N := 2) hx hb htb in_me hown hK hP 0 rfl rfl 0 (by decide) (htb _ tw_138) (fun _ h9 => h9) rfl d_me_openFrame_30 ?_
  refine lv_iload hx hb d_me_openFrame_33 (lv_at hl 0 rfl) ?_
  refine lv_lload_n hx hb d_me_openFrame_35 rfl (lv_at hl 3 rfl) ?_
  refine xa_bast (v := f) hx hb hK hP hD hS 1 1 rfl rfl (328 + k) (by omega) (by omega) (by decide) d_me_openFrame_36 (fun H locs hP hD hS => ?_)
  have hP : va_P (dC, dI) vwCl [(m0, .inr (2, [.ref (m1), .int (iI (fm))])), (m1, .inl (cL, 443, .inr (.inl (aB (va_up (va_cpy (row) (row) (328 + k) (328 + k + 1) (fm.toNat - k)) (328 + k) (f))))))] H := hP
  have hD : va_D A [(m0, .inr (2, [.ref (m1), .int (iI (fm))])), (m1, .inl (cL, 443, .inr (.inl (aB (va_up (va_cpy (row) (row) (328 + k) (328 + k + 1) (fm.toNat - k)) (328 + k) (f))))))] := hD
  refine lv_aload_n hx hb d_me_openFrame_37 rfl (lv_at hl 1 rfl) ?_
  refine lv_dup hx hb d_me_openFrame_38 rfl ?_
  refine va_get (D := (dC, dI)) (ci := 2) (v := .int (iI (fm))) (C := "OrganConsole$Memory") (T := T_me) (N := 2) hx hb htb in_me hown hK hP 0 rfl rfl 1 (by decide) (htb _ tw_140) (fun _ h9 => h9) rfl d_me_openFrame_39 ?_
  refine lv_iconst (v := iI (1)) hx hb d_me_openFrame_42 rfl ?_
  refine xi_add hx hb d_me_openFrame_43 ?_
  refine va_put (D := (dC, dI)) (ci := 2) (v := .int (iI ((fm) + (1)))) (ty := .int) (C := "OrganConsole$Memory") (T := T_me) (N := 2) hx hb htb in_me ty_me ty_me_ok nm_me hown hK hP hD hS 0 rfl rfl 1 (by decide) (htb _ tw_140) (fun _ h9 => h9) rfl (by decide +kernel) rfl rfl (Nat.le_of_ble_eq_true rfl) d_me_openFrame_44 (fun H locs hP hD hS => ?_)
  have hP : va_P (dC, dI) vwCl [(m0, .inr (2, [.ref (m1), .int (iI ((fm) + (1)))])), (m1, .inl (cL, 443, .inr (.inl (aB (va_up (va_cpy (row) (row) (328 + k) (328 + k + 1) (fm.toNat - k)) (328 + k) (f))))))] H := hP
  have hD : va_D A [(m0, .inr (2, [.ref (m1), .int (iI ((fm) + (1)))])), (m1, .inl (cL, 443, .inr (.inl (aB (va_up (va_cpy (row) (row) (328 + k) (328 + k + 1) (fm.toNat - k)) (328 + k) (f))))))] := hD
  exact W.vret hx hb hr (fun t ht hW => ⟨rfl, by rw [ht]; exact hP, hS.F ht⟩) hS.2.2 d_me_openFrame_47

set_option maxHeartbeats 200000 in
set_option maxRecDepth 100000 in
theorem c_me_closeFrame (l : Launch) (dC : Nat → ClassId) (dI : Nat → Nat → Nat) (cI cL cZ : ClassId) (sz : Nat) (m0 m1 : Nat) (row : Nat → Nat → Bool) (fm : Int) (k : Nat) (z : Int) (hz : z = (k : Int)) (hk : (k : Int) < fm) (hf1 : fm ≤ 100) : Met l y_me_closeFrame (Cond.code y_me_closeFrame prog_4_method_8_code 3 none :: TB) ({ frames := 1, cells := 0, slots := 0, locals := 48 }) (va_Pc [.ref (m0), .int (iI (z))] (PS dC dI [(m0, .inr (2, [.ref (m1), .int (iI (fm))])), (m1, .inl (cL, 443, .inr (.inl (aB (row)))))] [(cI, .int), (cL, .long), (cZ, .boolean)] sz)) (QW dC dI none [(m0, .inr (2, [.ref (m1), .int (iI (fm - 1))])), (m1, .inl (cL, 443, .inr (.inl (aB (va_cpy row row (328 + k + 1) (328 + k) (fm.toNat - 1 - k))))))] (va_A [(m0, .inr (2, [.ref (m1), .int (iI (fm))])), (m1, .inl (cL, 443, .inr (.inl (aB (row)))))] sz)) 0 0 (va_A [(m0, .inr (2, [.ref (m1), .int (iI (fm))])), (m1, .inl (cL, 443, .inr (.inl (aB (row)))))] sz) := by
  refine Met.ofW (cc := prog_4_method_8_code) (maxL := 3) (ret := none) (by decide) rfl ?_
  intro p e s m args below meth c s₁ B hml hv
  obtain ⟨ha, hsz, hP, hK, hD0, hN⟩ := hv
  have hx := B.exec
  have hb := B.bytes
  have hr := B.returns
  have htb : ∀ w ∈ TB, w.before args s = true := fun w h => atoms_spec (ws := Cond.code y_me_closeFrame prog_4_method_8_code 3 none :: TB) B.pre w (List.mem_cons_of_mem _ h)
  have hown : s.vm.findClass "OrganConsole$Memory" = some m.cls := findClass_of_methodNamed B.named
  have hlocks := B.notSynchronized
  subst hsz
  have hD := hD0.self (sz := s.heap.size)
  generalize hAe : va_A [(m0, .inr (2, [.ref (m1), .int (iI (fm))])), (m1, .inl (cL, 443, .inr (.inl (aB (row)))))] s.heap.size = A at hD ⊢
  have hA : ∀ q : Nat, s.heap.size ≤ q → A q := fun q h => by rw [← hAe]; exact Or.inr h
  have hS : va_S A s.heap s.heap [] := va_S.rf
  have hl := lv_entry ([.ref (m0), .int (iI (z))]) (n := 3) (Nat.le_of_ble_eq_true rfl)
  refine W.eq (g2 := F0 m 0 _ []) (by rw [ha]; exact lg_entry_eq m ([.ref (m0), .int (iI (z))]) 3) ?_
  generalize (lg_sl ([.ref (m0), .int (iI (z))]) ++ List.replicate (3 - (lg_sl ([.ref (m0), .int (iI (z))])).length) Slot.unset).toArray = ls at hl ⊢
  have hl : lv_has ls 3 [(0, .ref (m0)), (1, .int (iI (z)))] := hl
  refine lv_iload_n hx hb d_me_closeFrame_0 rfl (lv_at hl 1 rfl) ?_
  refine pcS hx hb hml hown htb (c_me_frameRow l (z)) tw_552 tw_486 tw_37 tw_487 1 (by decide +kernel) rfl rfl ⟨Nat.le_of_ble_eq_true rfl, Nat.le_of_ble_eq_true rfl⟩ ⟨Nat.zero_le _, Nat.zero_le _⟩ [.int (iI (z))] ⟨fun _ _ _ _ q => q, fun U _ _ => ⟨rfl, trivial⟩⟩ rfl hl.1 rfl (Nat.le_of_ble_eq_true rfl) d_me_closeFrame_1 ?_
  refine lv_istore_n hx hb d_me_closeFrame_4 rfl hl (by decide) rfl (fun ls hl => ?_)
  have hl : lv_has ls 3 [(2, .int (iI (328 + (z)))), (0, .ref (m0)), (1, .int (iI (z)))] := hl
  refine lv_aload_n hx hb d_me_closeFrame_5 rfl (lv_at hl 1 rfl) ?_
  refine lv_dup hx hb d_me_closeFrame_6 rfl ?_
  refine va_get (D := (dC, dI)) (ci := 2) (v := .int (iI (fm))) (C := "OrganConsole$Memory") (T := T_me) (N := 2) hx hb htb in_me hown hK hP 0 rfl rfl 1 (by decide) (htb _ tw_140) (fun _ h9 => h9) rfl d_me_closeFrame_7 ?_
  refine lv_iconst (v := iI (1)) hx hb d_me_closeFrame_10 rfl ?_
  refine xi_sub hx hb d_me_closeFrame_11 ?_
  refine va_put (D := (dC, dI)) (ci := 2) (v := .int (iI ((fm) - (1)))) (ty := .int) (C := "OrganConsole$Memory") (T := T_me) (N := 2) hx hb htb in_me ty_me ty_me_ok nm_me hown hK hP hD hS 0 rfl rfl 1 (by decide) (htb _ tw_140) (fun _ h9 => h9) rfl (by decide +kernel) rfl rfl (Nat.le_of_ble_eq_true rfl) d_me_closeFrame_12 (fun H locs hP hD hS => ?_)
  have hP : va_P (dC, dI) vwCl [(m0, .inr (2, [.ref (m1), .int (iI ((fm) - (1)))])), (m1, .inl (cL, 443, .inr (.inl (aB (row)))))] H := hP
  have hD : va_D A [(m0, .inr (2, [.ref (m1), .int (iI ((fm) - (1)))])), (m1, .inl (cL, 443, .inr (.inl (aB (row)))))] := hD
  refine lv_aload_n hx hb d_me_closeFrame_15 rfl (lv_at hl 1 rfl) ?_
  refine va_get (D := (dC, dI)) (ci := 2) (v := .ref (m1)) (C := "OrganConsole$Memory") (T := T_me) (N := 2) hx hb htb in_me hown hK hP 0 rfl rfl 0 (by decide) (htb _ tw_138) (fun _ h9 => h9) rfl d_me_closeFrame_16 ?_
  refine lv_iload_n hx hb d_me_closeFrame_19 rfl (lv_at hl 0 rfl) ?_
  refine lv_iconst (v := iI (1)) hx hb d_me_closeFrame_20 rfl ?_
  refine xi_add hx hb d_me_closeFrame_21 ?_
  refine lv_aload_n hx hb d_me_closeFrame_22 rfl (lv_at hl 1 rfl) ?_
  refine va_get (D := (dC, dI)) (ci := 2) (v := .ref (m1)) (C := "OrganConsole$Memory") (T := T_me) (N := 2) hx hb htb in_me hown hK hP 0 rfl rfl 0 (by decide) (htb _ tw_138) (fun _ h9 => h9) rfl d_me_closeFrame_23 ?_
  refine lv_iload_n hx hb d_me_closeFrame_26 rfl (lv_at hl 0 rfl) ?_
  refine lv_aload_n hx hb d_me_closeFrame_27 rfl (lv_at hl 1 rfl) ?_
  refine va_get (D := (dC, dI)) (ci := 2) (v := .int (iI ((fm) - (1)))) (C := "OrganConsole$Memory") (T := T_me) (N := 2) hx hb htb in_me hown hK hP 0 rfl rfl 1 (by decide) (htb _ tw_140) (fun _ h9 => h9) rfl d_me_closeFrame_28 ?_
  refine lv_iload_n hx hb d_me_closeFrame_31 rfl (lv_at hl 2 rfl) ?_
  refine xi_sub hx hb d_me_closeFrame_32 ?_
  refine xa_bcpy (f := row) (g := row) hx hb (hml.trans hl.1.symm) hown (htb _ tw_261) (htb _ tw_263) (htb _ tw_262) (htb _ tw_48) hK hP hD hS 1 1 1 1 rfl rfl rfl rfl (by decide) (328 + k + 1) (328 + k) (fm.toNat - 1 - k) (by omega) (by omega) (by omega) (by omega) (by omega) (by omega) (by omega) (Nat.le_of_ble_eq_true rfl) (Nat.le_of_ble_eq_true rfl) d_me_closeFrame_33 (fun H locs hP hD hS => ?_)
  have hP : va_P (dC, dI) vwCl [(m0, .inr (2, [.ref (m1), .int (iI ((fm) - (1)))])), (m1, .inl (cL, 443, .inr (.inl (aB (va_cpy (row) (row) (328 + k + 1) (328 + k) (fm.toNat - 1 - k))))))] H := hP
  have hD : va_D A [(m0, .inr (2, [.ref (m1), .int (iI ((fm) - (1)))])), (m1, .inl (cL, 443, .inr (.inl (aB (va_cpy (row) (row) (328 + k + 1) (328 + k) (fm.toNat - 1 - k))))))] := hD
  exact W.vret hx hb hr (fun t ht hW => ⟨rfl, by rw [ht]; exact hP, hS.F ht⟩) hS.2.2 d_me_closeFrame_36

set_option maxHeartbeats 200000 in
set_option maxRecDepth 100000 in
theorem c_me_become (l : Launch) (dC : Nat → ClassId) (dI : Nat → Nat → Nat) (cI cL cZ : ClassId) (sz : Nat) (m0 m1 : Nat) (row : Nat → Nat → Bool) (fm : Int) (o0 o1 : Nat) (ro : Nat → Nat → Bool) (fo : Int) : Met l y_me_become (Cond.code y_me_become prog_4_method_9_code 2 none :: TB) ({ frames := 1, cells := 0, slots := 0, locals := 48 }) (va_Pc [.ref (m0), .ref (o0)] (PS dC dI [(m0, .inr (2, [.ref (m1), .int (iI (fm))])), (m1, .inl (cL, 443, .inr (.inl (aB (row))))), (o0, .inr (2, [.ref (o1), .int (iI (fo))])), (o1, .inl (cL, 443, .inr (.inl (aB (ro)))))] [(cI, .int), (cL, .long), (cZ, .boolean)] sz)) (QW dC dI none [(m0, .inr (2, [.ref (m1), .int (iI (fo))])), (m1, .inl (cL, 443, .inr (.inl (aB (va_cpy ro row 0 0 443))))), (o0, .inr (2, [.ref (o1), .int (iI (fo))])), (o1, .inl (cL, 443, .inr (.inl (aB (ro)))))] (va_A [(m0, .inr (2, [.ref (m1), .int (iI (fm))])), (m1, .inl (cL, 443, .inr (.inl (aB (row))))), (o0, .inr (2, [.ref (o1), .int (iI (fo))])), (o1, .inl (cL, 443, .inr (.inl (aB (ro)))))] sz)) 0 0 (va_A [(m0, .inr (2, [.ref (m1), .int (iI (fm))])), (m1, .inl (cL, 443, .inr (.inl (aB (row))))), (o0, .inr (2, [.ref (o1), .int (iI (fo))])), (o1, .inl (cL, 443, .inr (.inl (aB (ro)))))] sz) := by
  refine Met.ofW (cc := prog_4_method_9_code) (maxL := 2) (ret := none) (by decide) rfl ?_
  intro p e s m args below meth c s₁ B hml hv
  obtain ⟨ha, hsz, hP, hK, hD0, hN⟩ := hv
  have hx := B.exec
  have hb := B.bytes
  have hr := B.returns
  have htb : ∀ w ∈ TB, w.before args s = true := fun w h => atoms_spec (ws := Cond.code y_me_become prog_4_method_9_code 2 none :: TB) B.pre w (List.mem_cons_of_mem _ h)
  have hown : s.vm.findClass "OrganConsole$Memory" = some m.cls := findClass_of_methodNamed B.named
  have hlocks := B.notSynchronized
  subst hsz
  have hD := hD0.self (sz := s.heap.size)
  generalize hAe : va_A [(m0, .inr (2, [.ref (m1), .int (iI (fm))])), (m1, .inl (cL, 443, .inr (.inl (aB (row))))), (o0, .inr (2, [.ref (o1), .int (iI (fo))])), (o1, .inl (cL, 443, .inr (.inl (aB (ro)))))] s.heap.size = A at hD ⊢
  have hA : ∀ q : Nat, s.heap.size ≤ q → A q := fun q h => by rw [← hAe]; exact Or.inr h
  have hS : va_S A s.heap s.heap [] := va_S.rf
  have hl := lv_entry ([.ref (m0), .ref (o0)]) (n := 2) (Nat.le_of_ble_eq_true rfl)
  refine W.eq (g2 := F0 m 0 _ []) (by rw [ha]; exact lg_entry_eq m ([.ref (m0), .ref (o0)]) 2) ?_
  generalize (lg_sl ([.ref (m0), .ref (o0)]) ++ List.replicate (2 - (lg_sl ([.ref (m0), .ref (o0)])).length) Slot.unset).toArray = ls at hl ⊢
  have hl : lv_has ls 2 [(0, .ref (m0)), (1, .ref (o0))] := hl
  refine lv_aload_n hx hb d_me_become_0 rfl (lv_at hl 1 rfl) ?_
  refine va_get (D := (dC, dI)) (ci := 2) (v := .ref (o1)) (C := "OrganConsole$Memory") (T := T_me) (N := 2) hx hb htb in_me hown hK hP 2 rfl rfl 0 (by decide) (htb _ tw_138) (fun _ h9 => h9) rfl d_me_become_1 ?_
  refine lv_iconst (v := iI (0)) hx hb d_me_become_4 rfl ?_
  refine lv_aload_n hx hb d_me_become_5 rfl (lv_at hl 0 rfl) ?_
  refine va_get (D := (dC, dI)) (ci := 2) (v := .ref (m1)) (C := "OrganConsole$Memory") (T := T_me) (N := 2) hx hb htb in_me hown hK hP 0 rfl rfl 0 (by decide) (htb _ tw_138) (fun _ h9 => h9) rfl d_me_become_6 ?_
  refine lv_iconst (v := iI (0)) hx hb d_me_become_9 rfl ?_
  refine lv_sipush (v := iI (443)) hx hb d_me_become_10 (by decide +kernel) ?_
  refine xa_bcpy (f := ro) (g := row) hx hb (hml.trans hl.1.symm) hown (htb _ tw_261) (htb _ tw_263) (htb _ tw_262) (htb _ tw_48) hK hP hD hS 3 1 1 1 rfl rfl rfl rfl (by decide) 0 0 443 (by omega) (by omega) (by omega) (by omega) (by omega) (by omega) (by omega) (Nat.le_of_ble_eq_true rfl) (Nat.le_of_ble_eq_true rfl) d_me_become_13 (fun H locs hP hD hS => ?_)
  have hP : va_P (dC, dI) vwCl [(m0, .inr (2, [.ref (m1), .int (iI (fm))])), (m1, .inl (cL, 443, .inr (.inl (aB (va_cpy (ro) (row) 0 0 443))))), (o0, .inr (2, [.ref (o1), .int (iI (fo))])), (o1, .inl (cL, 443, .inr (.inl (aB (ro)))))] H := hP
  have hD : va_D A [(m0, .inr (2, [.ref (m1), .int (iI (fm))])), (m1, .inl (cL, 443, .inr (.inl (aB (va_cpy (ro) (row) 0 0 443))))), (o0, .inr (2, [.ref (o1), .int (iI (fo))])), (o1, .inl (cL, 443, .inr (.inl (aB (ro)))))] := hD
  refine lv_aload_n hx hb d_me_become_16 rfl (lv_at hl 0 rfl) ?_
  refine lv_aload_n hx hb d_me_become_17 rfl (lv_at hl 1 rfl) ?_
  refine va_get (D := (dC, dI)) (ci := 2) (v := .int (iI (fo))) (C := "OrganConsole$Memory") (T := T_me) (N := 2) hx hb htb in_me hown hK hP 2 rfl rfl 1 (by decide) (htb _ tw_140) (fun _ h9 => h9) rfl d_me_become_18 ?_
  refine va_put (D := (dC, dI)) (ci := 2) (v := .int (iI (fo))) (ty := .int) (C := "OrganConsole$Memory") (T := T_me) (N := 2) hx hb htb in_me ty_me ty_me_ok nm_me hown hK hP hD hS 0 rfl rfl 1 (by decide) (htb _ tw_140) (fun _ h9 => h9) rfl (by decide +kernel) rfl rfl (Nat.le_of_ble_eq_true rfl) d_me_become_21 (fun H locs hP hD hS => ?_)
  have hP : va_P (dC, dI) vwCl [(m0, .inr (2, [.ref (m1), .int (iI (fo))])), (m1, .inl (cL, 443, .inr (.inl (aB (va_cpy (ro) (row) 0 0 443))))), (o0, .inr (2, [.ref (o1), .int (iI (fo))])), (o1, .inl (cL, 443, .inr (.inl (aB (ro)))))] H := hP
  have hD : va_D A [(m0, .inr (2, [.ref (m1), .int (iI (fo))])), (m1, .inl (cL, 443, .inr (.inl (aB (va_cpy (ro) (row) 0 0 443))))), (o0, .inr (2, [.ref (o1), .int (iI (fo))])), (o1, .inl (cL, 443, .inr (.inl (aB (ro)))))] := hD
  exact W.vret hx hb hr (fun t ht hW => ⟨rfl, by rw [ht]; exact hP, hS.F ht⟩) hS.2.2 d_me_become_24

set_option maxHeartbeats 200000 in
set_option maxRecDepth 100000 in
theorem c_me_empty (l : Launch) (dC : Nat → ClassId) (dI : Nat → Nat → Nat) (cI cL cZ : ClassId) (sz : Nat) (m0 m1 : Nat) (row : Nat → Nat → Bool) (fm : Int) : Met l y_me_empty (Cond.code y_me_empty prog_4_method_10_code 1 none :: TB) ({ frames := 1, cells := 0, slots := 0, locals := 24 }) (va_Pc [.ref (m0)] (PS dC dI [(m0, .inr (2, [.ref (m1), .int (iI (fm))])), (m1, .inl (cL, 443, .inr (.inl (aB (row)))))] [(cI, .int), (cL, .long), (cZ, .boolean)] sz)) (QW dC dI none [(m0, .inr (2, [.ref (m1), .int (iI (0))])), (m1, .inl (cL, 443, .inr (.inl (aB (flf row (fun _ => false) 443)))))] (va_A [(m0, .inr (2, [.ref (m1), .int (iI (fm))])), (m1, .inl (cL, 443, .inr (.inl (aB (row)))))] sz)) 0 0 (va_A [(m0, .inr (2, [.ref (m1), .int (iI (fm))])), (m1, .inl (cL, 443, .inr (.inl (aB (row)))))] sz) := by
  refine Met.ofW (cc := prog_4_method_10_code) (maxL := 1) (ret := none) (by decide) rfl ?_
  intro p e s m args below meth c s₁ B hml hv
  obtain ⟨ha, hsz, hP, hK, hD0, hN⟩ := hv
  have hx := B.exec
  have hb := B.bytes
  have hr := B.returns
  have htb : ∀ w ∈ TB, w.before args s = true := fun w h => atoms_spec (ws := Cond.code y_me_empty prog_4_method_10_code 1 none :: TB) B.pre w (List.mem_cons_of_mem _ h)
  have hown : s.vm.findClass "OrganConsole$Memory" = some m.cls := findClass_of_methodNamed B.named
  have hlocks := B.notSynchronized
  subst hsz
  have hD := hD0.self (sz := s.heap.size)
  generalize hAe : va_A [(m0, .inr (2, [.ref (m1), .int (iI (fm))])), (m1, .inl (cL, 443, .inr (.inl (aB (row)))))] s.heap.size = A at hD ⊢
  have hA : ∀ q : Nat, s.heap.size ≤ q → A q := fun q h => by rw [← hAe]; exact Or.inr h
  have hS : va_S A s.heap s.heap [] := va_S.rf
  have hl := lv_entry ([.ref (m0)]) (n := 1) (Nat.le_of_ble_eq_true rfl)
  refine W.eq (g2 := F0 m 0 _ []) (by rw [ha]; exact lg_entry_eq m ([.ref (m0)]) 1) ?_
  generalize (lg_sl ([.ref (m0)]) ++ List.replicate (1 - (lg_sl ([.ref (m0)])).length) Slot.unset).toArray = ls at hl ⊢
  have hl : lv_has ls 1 [(0, .ref (m0))] := hl
  refine lv_aload_n hx hb d_me_empty_0 rfl (lv_at hl 0 rfl) ?_
  refine va_get (D := (dC, dI)) (ci := 2) (v := .ref (m1)) (C := "OrganConsole$Memory") (T := T_me) (N := 2) hx hb htb in_me hown hK hP 0 rfl rfl 0 (by decide) (htb _ tw_138) (fun _ h9 => h9) rfl d_me_empty_1 ?_
  refine lv_lconst (v := bL (fun _ => false)) hx hb d_me_empty_4 bL_0 ?_
  have hFc := va_free (wc := [(m1, .inl (cL, 443, .inr (.inl (aB (row)))))]) hD hS hA [1] rfl
  refine wcS hx hb hml hown htb (c_ja_fill_l l dC dI cI cL cZ s.heap.size m1 443 (by decide) row (fun _ => false)) tw_250 tw_251 tw_50 tw_252 2 (by decide +kernel) rfl rfl ⟨Nat.le_of_ble_eq_true rfl, Nat.le_of_ble_eq_true rfl⟩ ⟨Nat.zero_le _, Nat.zero_le _⟩ [.ref (m1), .long (bL (fun _ => false))] (PS_S (ws := [(m1, .inl (cL, 443, .inr (.inl (aB (row)))))]) (hP.sub [1] rfl) hK (hD.sub [1] (by decide) rfl) hN) rfl hl.1 rfl (Nat.le_of_ble_eq_true rfl) d_me_empty_5 hS hFc (fun H1 locs hP1 hz1 hk1 hS => ?_)
  obtain ⟨hP, hD⟩ := wc_join (wc := [(m1, .inl (cL, 443, .inr (.inl (aB (row)))))]) (w2 := [(m0, .inr (2, [.ref (m1), .int (iI (fm))])), (m1, .inl (cL, 443, .inr (.inl (aB (flf row (fun _ => false) 443)))))]) (wr := [(m0, .inr (2, [.ref (m1), .int (iI (fm))]))]) (w1 := [(m1, .inl (cL, 443, .inr (.inl (aB (flf row (fun _ => false) 443)))))]) hP hD [1] [0] [0, 1] rfl rfl (by decide) (by decide) (by decide) rfl hk1 hFc hP1 rfl rfl (by decide)
  generalize H1 = H at hP hS ⊢
  refine lv_aload_n hx hb d_me_empty_8 rfl (lv_at hl 0 rfl) ?_
  refine lv_iconst (v := iI (0)) hx hb d_me_empty_9 rfl ?_
  refine va_put (D := (dC, dI)) (ci := 2) (v := .int (iI (0))) (ty := .int) (C := "OrganConsole$Memory") (T := T_me) (N := 2) hx hb htb in_me ty_me ty_me_ok nm_me hown hK hP hD hS 0 rfl rfl 1 (by decide) (htb _ tw_140) (fun _ h9 => h9) rfl (by decide +kernel) rfl rfl (Nat.le_of_ble_eq_true rfl) d_me_empty_10 (fun H locs hP hD hS => ?_)
  have hP : va_P (dC, dI) vwCl [(m0, .inr (2, [.ref (m1), .int (iI (0))])), (m1, .inl (cL, 443, .inr (.inl (aB (flf row (fun _ => false) 443)))))] H := hP
  have hD : va_D A [(m0, .inr (2, [.ref (m1), .int (iI (0))])), (m1, .inl (cL, 443, .inr (.inl (aB (flf row (fun _ => false) 443)))))] := hD
  exact W.vret hx hb hr (fun t ht hW => ⟨rfl, by rw [ht]; exact hP, hS.F ht⟩) hS.2.2 d_me_empty_13

set_option maxHeartbeats 200000 in
set_option maxRecDepth 100000 in
theorem c_cp_writePages (l : Launch) (dC : Nat → ClassId) (dI : Nat → Nat → Nat) (cI cL cZ : ClassId) (sz : Nat) (c0 c1 c2 c3 c4 : Nat) (fv : Nat → Int) (fz : Nat → Bool) (rw9 : Nat → Nat → Bool) (fw : Int) (m0 m1 : Nat) (row : Nat → Nat → Bool) (fm : Int) (v : Int) (k9 : Nat) (z : Int) (hz : z = (k9 : Int)) (hk9 : k9 ≤ 9) : Met l y_cp_writePages (Cond.code y_cp_writePages prog_2_method_4_code 5 none :: TB) ({ frames := 2, cells := 0, slots := 0, locals := 69 }) (va_Pc [.ref (c0), .ref (m0), .int (iI (v)), .int (iI (z))] (PS dC dI [(c0, .inr (0, [.ref (c1), .ref (c2), .ref (c3)])), (c1, .inl (cI, 9, .inl (aI (fv)))), (c2, .inl (cZ, 9, .inl (aZ (fz)))), (c3, .inr (2, [.ref (c4), .int (iI (fw))])), (c4, .inl (cL, 443, .inr (.inl (aB (rw9))))), (m0, .inr (2, [.ref (m1), .int (iI (fm))])), (m1, .inl (cL, 443, .inr (.inl (aB (row)))))] [(cI, .int), (cL, .long), (cZ, .boolean)] sz)) (QW dC dI none [(c0, .inr (0, [.ref (c1), .ref (c2), .ref (c3)])), (c1, .inl (cI, 9, .inl (aI (flf fv v k9)))), (c2, .inl (cZ, 9, .inl (aZ (flf fz false k9)))), (c3, .inr (2, [.ref (c4), .int (iI (if k9 = 9 then fm else fw))])), (c4, .inl (cL, 443, .inr (.inl (aB (if k9 = 9 then va_cpy row rw9 0 0 443 else rw9))))), (m0, .inr (2, [.ref (m1), .int (iI (fm))])), (m1, .inl (cL, 443, .inr (.inl (aB (row)))))] (va_A [(c0, .inr (0, [.ref (c1), .ref (c2), .ref (c3)])), (c1, .inl (cI, 9, .inl (aI (fv)))), (c2, .inl (cZ, 9, .inl (aZ (fz)))), (c3, .inr (2, [.ref (c4), .int (iI (fw))])), (c4, .inl (cL, 443, .inr (.inl (aB (rw9))))), (m0, .inr (2, [.ref (m1), .int (iI (fm))])), (m1, .inl (cL, 443, .inr (.inl (aB (row)))))] sz)) 0 0 (va_A [(c0, .inr (0, [.ref (c1), .ref (c2), .ref (c3)])), (c1, .inl (cI, 9, .inl (aI (fv)))), (c2, .inl (cZ, 9, .inl (aZ (fz)))), (c3, .inr (2, [.ref (c4), .int (iI (fw))])), (c4, .inl (cL, 443, .inr (.inl (aB (rw9))))), (m0, .inr (2, [.ref (m1), .int (iI (fm))])), (m1, .inl (cL, 443, .inr (.inl (aB (row)))))] sz) := by
  refine Met.ofW (cc := prog_2_method_4_code) (maxL := 5) (ret := none) (by decide) rfl ?_
  intro p e s m args below meth c s₁ B hml hv
  obtain ⟨ha, hsz, hP, hK, hD0, hN⟩ := hv
  have hx := B.exec
  have hb := B.bytes
  have hr := B.returns
  have htb : ∀ w ∈ TB, w.before args s = true := fun w h => atoms_spec (ws := Cond.code y_cp_writePages prog_2_method_4_code 5 none :: TB) B.pre w (List.mem_cons_of_mem _ h)
  have hown : s.vm.findClass "OrganConsole$Copy" = some m.cls := findClass_of_methodNamed B.named
  have hlocks := B.notSynchronized
  subst hsz
  have hD := hD0.self (sz := s.heap.size)
  generalize hAe : va_A [(c0, .inr (0, [.ref (c1), .ref (c2), .ref (c3)])), (c1, .inl (cI, 9, .inl (aI (fv)))), (c2, .inl (cZ, 9, .inl (aZ (fz)))), (c3, .inr (2, [.ref (c4), .int (iI (fw))])), (c4, .inl (cL, 443, .inr (.inl (aB (rw9))))), (m0, .inr (2, [.ref (m1), .int (iI (fm))])), (m1, .inl (cL, 443, .inr (.inl (aB (row)))))] s.heap.size = A at hD ⊢
  have hA : ∀ q : Nat, s.heap.size ≤ q → A q := fun q h => by rw [← hAe]; exact Or.inr h
  have hS : va_S A s.heap s.heap [] := va_S.rf
  have hl := lv_entry ([.ref (c0), .ref (m0), .int (iI (v)), .int (iI (z))]) (n := 5) (Nat.le_of_ble_eq_true rfl)
  refine W.eq (g2 := F0 m 0 _ []) (by rw [ha]; exact lg_entry_eq m ([.ref (c0), .ref (m0), .int (iI (v)), .int (iI (z))]) 5) ?_
  generalize (lg_sl ([.ref (c0), .ref (m0), .int (iI (v)), .int (iI (z))]) ++ List.replicate (5 - (lg_sl ([.ref (c0), .ref (m0), .int (iI (v)), .int (iI (z))])).length) Slot.unset).toArray = ls at hl ⊢
  have hl : lv_has ls 5 [(0, .ref (c0)), (1, .ref (m0)), (2, .int (iI (v))), (3, .int (iI (z)))] := hl
  refine lv_iconst (v := iI (0)) hx hb d_cp_writePages_0 rfl ?_
  refine lv_istore hx hb d_cp_writePages_1 hl (by decide) rfl (fun ls hl => ?_)
  have hl : lv_has ls 5 [(4, .int (iI (0))), (0, .ref (c0)), (1, .ref (m0)), (2, .int (iI (v))), (3, .int (iI (z)))] := hl
  have q_1 : iI (0) = iI ((((0) : Nat) : Int)) := congrArg iI (by omega)
  have hl : lv_has ls 5 [(4, .int (iI ((((0) : Nat) : Int)))), (0, .ref (c0)), (1, .ref (m0)), (2, .int (iI (v))), (3, .int (iI (z)))] := lv_eq9 hl (congr (congrArg List.cons (congrArg (fun z => ((4 : Nat), Value.int z)) q_1)) (congr (congrArg List.cons (Eq.refl ((0 : Nat), Value.ref (c0)))) (congr (congrArg List.cons (Eq.refl ((1 : Nat), Value.ref (m0)))) (congr (congrArg List.cons (Eq.refl ((2 : Nat), Value.int (iI (v))))) (congr (congrArg List.cons (Eq.refl ((3 : Nat), Value.int (iI (z))))) (rfl))))))
  have q_2 : (fz) = (flf fz false (0)) := by first | exact flf_0 _ _ | exact flf_s _ _ _
  have q_3 : (fv) = (flf fv v (0)) := by first | exact flf_0 _ _ | exact flf_s _ _ _
  have hP : va_P (dC, dI) vwCl [(c0, .inr (0, [.ref (c1), .ref (c2), .ref (c3)])), (c1, .inl (cI, 9, .inl (aI (flf fv v (0))))), (c2, .inl (cZ, 9, .inl (aZ (flf fz false (0))))), (c3, .inr (2, [.ref (c4), .int (iI (fw))])), (c4, .inl (cL, 443, .inr (.inl (aB (rw9))))), (m0, .inr (2, [.ref (m1), .int (iI (fm))])), (m1, .inl (cL, 443, .inr (.inl (aB (row)))))] s.heap := P_eq hP (congrArg (List.cons _) (congr (congrArg List.cons (congrArg (fun z9 => ((c1 : Nat), (Sum.inl (cI, 9, Sum.inl (aI z9)) : va_E))) q_3)) (congr (congrArg List.cons (congrArg (fun z9 => ((c2 : Nat), (Sum.inl (cZ, 9, Sum.inl (aZ z9)) : va_E))) q_2)) (congrArg (List.cons _) (congrArg (List.cons _) (congrArg (List.cons _) (congrArg (List.cons _) (rfl))))))))
  have hD : va_D A [(c0, .inr (0, [.ref (c1), .ref (c2), .ref (c3)])), (c1, .inl (cI, 9, .inl (aI (flf fv v (0))))), (c2, .inl (cZ, 9, .inl (aZ (flf fz false (0))))), (c3, .inr (2, [.ref (c4), .int (iI (fw))])), (c4, .inl (cL, 443, .inr (.inl (aB (rw9))))), (m0, .inr (2, [.ref (m1), .int (iI (fm))])), (m1, .inl (cL, 443, .inr (.inl (aB (row)))))] := D_same (w1 := [(c0, .inr (0, [.ref (c1), .ref (c2), .ref (c3)])), (c1, .inl (cI, 9, .inl (aI (fv)))), (c2, .inl (cZ, 9, .inl (aZ (fz)))), (c3, .inr (2, [.ref (c4), .int (iI (fw))])), (c4, .inl (cL, 443, .inr (.inl (aB (rw9))))), (m0, .inr (2, [.ref (m1), .int (iI (fm))])), (m1, .inl (cL, 443, .inr (.inl (aB (row)))))]) rfl hD
  have L3 : ∀ (fu : Nat) (k : Nat) (H : Heap) (locs : List Loc), k9 - k < fu → k ≤ k9 → va_P (dC, dI) vwCl [(c0, .inr (0, [.ref (c1), .ref (c2), .ref (c3)])), (c1, .inl (cI, 9, .inl (aI (flf fv v k)))), (c2, .inl (cZ, 9, .inl (aZ (flf fz false k)))), (c3, .inr (2, [.ref (c4), .int (iI (fw))])), (c4, .inl (cL, 443, .inr (.inl (aB (rw9))))), (m0, .inr (2, [.ref (m1), .int (iI (fm))])), (m1, .inl (cL, 443, .inr (.inl (aB (row)))))] H → va_D A [(c0, .inr (0, [.ref (c1), .ref (c2), .ref (c3)])), (c1, .inl (cI, 9, .inl (aI (flf fv v k)))), (c2, .inl (cZ, 9, .inl (aZ (flf fz false k)))), (c3, .inr (2, [.ref (c4), .int (iI (fw))])), (c4, .inl (cL, 443, .inr (.inl (aB (rw9))))), (m0, .inr (2, [.ref (m1), .int (iI (fm))])), (m1, .inl (cL, 443, .inr (.inl (aB (row)))))] → va_S A s.heap H locs → ∀ ls : Array Slot, lv_has ls 5 [(4, .int (iI (((k : Nat) : Int)))), (0, .ref (c0)), (1, .ref (m0)), (2, .int (iI (v))), (3, .int (iI (z)))] → W p l e (headSpec (Cond.code y_cp_writePages prog_2_method_4_code 5 none :: TB) ({ frames := 2, cells := 0, slots := 0, locals := 69 })).room s m args below meth c H locs 0 0 (MQ below (QW dC dI none [(c0, .inr (0, [.ref (c1), .ref (c2), .ref (c3)])), (c1, .inl (cI, 9, .inl (aI (flf fv v k9)))), (c2, .inl (cZ, 9, .inl (aZ (flf fz false k9)))), (c3, .inr (2, [.ref (c4), .int (iI (if k9 = 9 then fm else fw))])), (c4, .inl (cL, 443, .inr (.inl (aB (if k9 = 9 then va_cpy row rw9 0 0 443 else rw9))))), (m0, .inr (2, [.ref (m1), .int (iI (fm))])), (m1, .inl (cL, 443, .inr (.inl (aB (row)))))] A) args s 0 0 A) (F0 m 3 ls []) := by
    intro fu
    induction fu with
    | zero => intro k H locs hfu; exact absurd hfu (Nat.not_lt_zero _)
    | succ fu ih3 =>
      intro k H locs hfu hk hP hD hS ls hl
      refine lv_iload hx hb d_cp_writePages_3 (lv_at hl 0 rfl) ?_
      refine lv_iload_n hx hb d_cp_writePages_5 rfl (lv_at hl 4 rfl) ?_
      refine xi_icmp_ge (tgt := 31) hx hb ⟨by omega, by omega⟩ ⟨by omega, by omega⟩ d_cp_writePages_6 (by decide) (fun u_4 => ?_) (fun u_4 => ?_)
      · skip
        have h99 : k = k9 := by omega
        refine lv_iload_n hx hb d_cp_writePages_31 rfl (lv_at hl 4 rfl) ?_
        refine lv_bipush (v := iI (9)) hx hb d_cp_writePages_32 (by decide +kernel) ?_
        refine xi_icmp_ne (tgt := 45) hx hb ⟨by omega, by omega⟩ ⟨by omega, by omega⟩ d_cp_writePages_34 (by decide) (fun u_5 => ?_) (fun u_5 => ?_)
        · skip
          have q_6 : (rw9) = (if k9 = 9 then va_cpy row rw9 0 0 443 else rw9) := by first | rw [if_pos (by omega)] | rw [if_neg (by omega)]
          have q_7 : iI (fw) = iI (if k9 = 9 then fm else fw) := congrArg iI (by first | rw [if_pos (by omega)] | rw [if_neg (by omega)])
          have q_8 : (flf fz false k) = (flf fz false k9) := by rw [h99]
          have q_9 : (flf fv v k) = (flf fv v k9) := by rw [h99]
          have hP : va_P (dC, dI) vwCl [(c0, .inr (0, [.ref (c1), .ref (c2), .ref (c3)])), (c1, .inl (cI, 9, .inl (aI (flf fv v k9)))), (c2, .inl (cZ, 9, .inl (aZ (flf fz false k9)))), (c3, .inr (2, [.ref (c4), .int (iI (if k9 = 9 then fm else fw))])), (c4, .inl (cL, 443, .inr (.inl (aB (if k9 = 9 then va_cpy row rw9 0 0 443 else rw9))))), (m0, .inr (2, [.ref (m1), .int (iI (fm))])), (m1, .inl (cL, 443, .inr (.inl (aB (row)))))] H := P_eq hP (congrArg (List.cons _) (congr (congrArg List.cons (congrArg (fun z9 => ((c1 : Nat), (Sum.inl (cI, 9, Sum.inl (aI z9)) : va_E))) q_9)) (congr (congrArg List.cons (congrArg (fun z9 => ((c2 : Nat), (Sum.inl (cZ, 9, Sum.inl (aZ z9)) : va_E))) q_8)) (congr (congrArg List.cons (congrArg (fun z9 => ((c3 : Nat), (Sum.inr (2, z9) : va_E))) (show ([.ref (c4), .int (iI (fw))] : List Value) = [.ref (c4), .int (iI (if k9 = 9 then fm else fw))] from congrArg (List.cons _) (congr (congrArg List.cons (congrArg Value.int q_7)) (rfl))))) (congr (congrArg List.cons (congrArg (fun z9 => ((c4 : Nat), (Sum.inl (cL, 443, Sum.inr (Sum.inl (aB z9))) : va_E))) q_6)) (congrArg (List.cons _) (congrArg (List.cons _) (rfl))))))))
          exact W.vret hx hb hr (fun t ht hW => ⟨rfl, by rw [ht]; exact hP, hS.F ht⟩) hS.2.2 d_cp_writePages_45
        · skip
          refine lv_aload_n hx hb d_cp_writePages_37 rfl (lv_at hl 1 rfl) ?_
          refine va_get (D := (dC, dI)) (ci := 0) (v := .ref (c3)) (C := "OrganConsole$Copy") (T := T_cp) (N := 3) hx hb htb in_cp hown hK hP 0 rfl rfl 2 (by decide) (htb _ tw_166) (fun _ h9 => h9) rfl d_cp_writePages_38 ?_
          refine lv_aload_n hx hb d_cp_writePages_41 rfl (lv_at hl 2 rfl) ?_
          have hFc := va_free (wc := [(c3, .inr (2, [.ref (c4), .int (iI (fw))])), (c4, .inl (cL, 443, .inr (.inl (aB (rw9))))), (m0, .inr (2, [.ref (m1), .int (iI (fm))])), (m1, .inl (cL, 443, .inr (.inl (aB (row)))))]) hD hS hA [3, 4, 5, 6] rfl
          refine wcV hx hb hml hown htb (c_me_become l dC dI cI cL cZ H.size c3 c4 rw9 fw m0 m1 row fm) tw_681 tw_258 tw_259 tw_37 tw_260 1 (by decide +kernel) rfl rfl ⟨Nat.le_of_ble_eq_true rfl, Nat.le_of_ble_eq_true rfl⟩ ⟨Nat.zero_le _, Nat.zero_le _⟩ [.ref (m0)] (PS_V (q0 := 3) (ci := 2) (ws := [(c3, .inr (2, [.ref (c4), .int (iI (fw))])), (c4, .inl (cL, 443, .inr (.inl (aB (rw9))))), (m0, .inr (2, [.ref (m1), .int (iI (fm))])), (m1, .inl (cL, 443, .inr (.inl (aB (row)))))]) hP (hP.sub [3, 4, 5, 6] rfl) hK (hD.sub [3, 4, 5, 6] (by decide) rfl) hN rfl rfl) rfl hl.1 rfl (Nat.le_of_ble_eq_true rfl) d_cp_writePages_42 hS hFc (fun H1 locs hP1 hz1 hk1 hS => ?_)
          obtain ⟨hP, hD⟩ := wc_join (wc := [(c3, .inr (2, [.ref (c4), .int (iI (fw))])), (c4, .inl (cL, 443, .inr (.inl (aB (rw9))))), (m0, .inr (2, [.ref (m1), .int (iI (fm))])), (m1, .inl (cL, 443, .inr (.inl (aB (row)))))]) (w2 := [(c0, .inr (0, [.ref (c1), .ref (c2), .ref (c3)])), (c1, .inl (cI, 9, .inl (aI (flf fv v k)))), (c2, .inl (cZ, 9, .inl (aZ (flf fz false k)))), (c3, .inr (2, [.ref (c4), .int (iI (fm))])), (c4, .inl (cL, 443, .inr (.inl (aB (va_cpy row rw9 0 0 443))))), (m0, .inr (2, [.ref (m1), .int (iI (fm))])), (m1, .inl (cL, 443, .inr (.inl (aB (row)))))]) (wr := [(c0, .inr (0, [.ref (c1), .ref (c2), .ref (c3)])), (c1, .inl (cI, 9, .inl (aI (flf fv v k)))), (c2, .inl (cZ, 9, .inl (aZ (flf fz false k))))]) (w1 := [(c3, .inr (2, [.ref (c4), .int (iI (fm))])), (c4, .inl (cL, 443, .inr (.inl (aB (va_cpy row rw9 0 0 443))))), (m0, .inr (2, [.ref (m1), .int (iI (fm))])), (m1, .inl (cL, 443, .inr (.inl (aB (row)))))]) hP hD [3, 4, 5, 6] [0, 1, 2] [0, 1, 2, 3, 4, 5, 6] rfl rfl (by decide) (by decide) (by decide) rfl hk1 hFc hP1 rfl rfl (by decide)
          generalize H1 = H at hP hS ⊢
          have q_10 : (va_cpy row rw9 0 0 443) = (if k9 = 9 then va_cpy row rw9 0 0 443 else rw9) := by first | rw [if_pos (by omega)] | rw [if_neg (by omega)]
          have q_11 : iI (fm) = iI (if k9 = 9 then fm else fw) := congrArg iI (by first | rw [if_pos (by omega)] | rw [if_neg (by omega)])
          have q_12 : (flf fz false k) = (flf fz false k9) := by rw [h99]
          have q_13 : (flf fv v k) = (flf fv v k9) := by rw [h99]
          have hP : va_P (dC, dI) vwCl [(c0, .inr (0, [.ref (c1), .ref (c2), .ref (c3)])), (c1, .inl (cI, 9, .inl (aI (flf fv v k9)))), (c2, .inl (cZ, 9, .inl (aZ (flf fz false k9)))), (c3, .inr (2, [.ref (c4), .int (iI (if k9 = 9 then fm else fw))])), (c4, .inl (cL, 443, .inr (.inl (aB (if k9 = 9 then va_cpy row rw9 0 0 443 else rw9))))), (m0, .inr (2, [.ref (m1), .int (iI (fm))])), (m1, .inl (cL, 443, .inr (.inl (aB (row)))))] H := P_eq hP (congrArg (List.cons _) (congr (congrArg List.cons (congrArg (fun z9 => ((c1 : Nat), (Sum.inl (cI, 9, Sum.inl (aI z9)) : va_E))) q_13)) (congr (congrArg List.cons (congrArg (fun z9 => ((c2 : Nat), (Sum.inl (cZ, 9, Sum.inl (aZ z9)) : va_E))) q_12)) (congr (congrArg List.cons (congrArg (fun z9 => ((c3 : Nat), (Sum.inr (2, z9) : va_E))) (show ([.ref (c4), .int (iI (fm))] : List Value) = [.ref (c4), .int (iI (if k9 = 9 then fm else fw))] from congrArg (List.cons _) (congr (congrArg List.cons (congrArg Value.int q_11)) (rfl))))) (congr (congrArg List.cons (congrArg (fun z9 => ((c4 : Nat), (Sum.inl (cL, 443, Sum.inr (Sum.inl (aB z9))) : va_E))) q_10)) (congrArg (List.cons _) (congrArg (List.cons _) (rfl))))))))
          exact W.vret hx hb hr (fun t ht hW => ⟨rfl, by rw [ht]; exact hP, hS.F ht⟩) hS.2.2 d_cp_writePages_45
      · skip
        refine lv_aload_n hx hb d_cp_writePages_9 rfl (lv_at hl 1 rfl) ?_
        refine va_get (D := (dC, dI)) (ci := 0) (v := .ref (c1)) (C := "OrganConsole$Copy") (T := T_cp) (N := 3) hx hb htb in_cp hown hK hP 0 rfl rfl 0 (by decide) (htb _ tw_161) (fun _ h9 => h9) rfl d_cp_writePages_10 ?_
        refine lv_iload hx hb d_cp_writePages_13 (lv_at hl 0 rfl) ?_
        refine lv_iload_n hx hb d_cp_writePages_15 rfl (lv_at hl 3 rfl) ?_
        refine xa_iast (v := v) hx hb hK hP hD hS 1 0 rfl rfl (k) (by omega) (by omega) (by decide) d_cp_writePages_16 (fun H locs hP hD hS => ?_)
        have hP : va_P (dC, dI) vwCl [(c0, .inr (0, [.ref (c1), .ref (c2), .ref (c3)])), (c1, .inl (cI, 9, .inl (aI (va_up (flf fv v k) (k) (v))))), (c2, .inl (cZ, 9, .inl (aZ (flf fz false k)))), (c3, .inr (2, [.ref (c4), .int (iI (fw))])), (c4, .inl (cL, 443, .inr (.inl (aB (rw9))))), (m0, .inr (2, [.ref (m1), .int (iI (fm))])), (m1, .inl (cL, 443, .inr (.inl (aB (row)))))] H := hP
        have hD : va_D A [(c0, .inr (0, [.ref (c1), .ref (c2), .ref (c3)])), (c1, .inl (cI, 9, .inl (aI (va_up (flf fv v k) (k) (v))))), (c2, .inl (cZ, 9, .inl (aZ (flf fz false k)))), (c3, .inr (2, [.ref (c4), .int (iI (fw))])), (c4, .inl (cL, 443, .inr (.inl (aB (rw9))))), (m0, .inr (2, [.ref (m1), .int (iI (fm))])), (m1, .inl (cL, 443, .inr (.inl (aB (row)))))] := hD
        refine lv_aload_n hx hb d_cp_writePages_17 rfl (lv_at hl 1 rfl) ?_
        refine va_get (D := (dC, dI)) (ci := 0) (v := .ref (c2)) (C := "OrganConsole$Copy") (T := T_cp) (N := 3) hx hb htb in_cp hown hK hP 0 rfl rfl 1 (by decide) (htb _ tw_164) (fun _ h9 => h9) rfl d_cp_writePages_18 ?_
        refine lv_iload hx hb d_cp_writePages_21 (lv_at hl 0 rfl) ?_
        refine lv_iconst (v := iI (0)) hx hb d_cp_writePages_23 rfl ?_
        have q_14 : iI (0) = bI (false) := by decide +kernel
        rw [q_14]
        refine xa_zast (v := false) hx hb hK hP hD hS 2 2 rfl rfl (k) (by omega) (by omega) (by decide) d_cp_writePages_24 (fun H locs hP hD hS => ?_)
        have hP : va_P (dC, dI) vwCl [(c0, .inr (0, [.ref (c1), .ref (c2), .ref (c3)])), (c1, .inl (cI, 9, .inl (aI (va_up (flf fv v k) (k) (v))))), (c2, .inl (cZ, 9, .inl (aZ (va_up (flf fz false k) (k) (false))))), (c3, .inr (2, [.ref (c4), .int (iI (fw))])), (c4, .inl (cL, 443, .inr (.inl (aB (rw9))))), (m0, .inr (2, [.ref (m1), .int (iI (fm))])), (m1, .inl (cL, 443, .inr (.inl (aB (row)))))] H := hP
        have hD : va_D A [(c0, .inr (0, [.ref (c1), .ref (c2), .ref (c3)])), (c1, .inl (cI, 9, .inl (aI (va_up (flf fv v k) (k) (v))))), (c2, .inl (cZ, 9, .inl (aZ (va_up (flf fz false k) (k) (false))))), (c3, .inr (2, [.ref (c4), .int (iI (fw))])), (c4, .inl (cL, 443, .inr (.inl (aB (rw9))))), (m0, .inr (2, [.ref (m1), .int (iI (fm))])), (m1, .inl (cL, 443, .inr (.inl (aB (row)))))] := hD
        refine lv_iinc (k := 0) (v := iI (((k : Nat) : Int) + 1)) hx hb d_cp_writePages_25 hl rfl (iI_add _ _) (by decide) rfl (fun ls hl => ?_)
        have hl : lv_has ls 5 [(4, .int (iI (((k : Nat) : Int) + 1))), (0, .ref (c0)), (1, .ref (m0)), (2, .int (iI (v))), (3, .int (iI (z)))] := hl
        refine lv_goto (tgt := 3) hx hb d_cp_writePages_28 (by decide) ?_
        have q_15 : iI (((k : Nat) : Int) + 1) = iI ((((k + 1) : Nat) : Int)) := congrArg iI (by omega)
        have hl : lv_has ls 5 [(4, .int (iI ((((k + 1) : Nat) : Int)))), (0, .ref (c0)), (1, .ref (m0)), (2, .int (iI (v))), (3, .int (iI (z)))] := lv_eq9 hl (congr (congrArg List.cons (congrArg (fun z => ((4 : Nat), Value.int z)) q_15)) (congr (congrArg List.cons (Eq.refl ((0 : Nat), Value.ref (c0)))) (congr (congrArg List.cons (Eq.refl ((1 : Nat), Value.ref (m0)))) (congr (congrArg List.cons (Eq.refl ((2 : Nat), Value.int (iI (v))))) (congr (congrArg List.cons (Eq.refl ((3 : Nat), Value.int (iI (z))))) (rfl))))))
        have q_16 : (va_up (flf fz false k) (k) (false)) = (flf fz false (k + 1)) := by first | exact flf_0 _ _ | exact flf_s _ _ _
        have q_17 : (va_up (flf fv v k) (k) (v)) = (flf fv v (k + 1)) := by first | exact flf_0 _ _ | exact flf_s _ _ _
        have hP : va_P (dC, dI) vwCl [(c0, .inr (0, [.ref (c1), .ref (c2), .ref (c3)])), (c1, .inl (cI, 9, .inl (aI (flf fv v (k + 1))))), (c2, .inl (cZ, 9, .inl (aZ (flf fz false (k + 1))))), (c3, .inr (2, [.ref (c4), .int (iI (fw))])), (c4, .inl (cL, 443, .inr (.inl (aB (rw9))))), (m0, .inr (2, [.ref (m1), .int (iI (fm))])), (m1, .inl (cL, 443, .inr (.inl (aB (row)))))] H := P_eq hP (congrArg (List.cons _) (congr (congrArg List.cons (congrArg (fun z9 => ((c1 : Nat), (Sum.inl (cI, 9, Sum.inl (aI z9)) : va_E))) q_17)) (congr (congrArg List.cons (congrArg (fun z9 => ((c2 : Nat), (Sum.inl (cZ, 9, Sum.inl (aZ z9)) : va_E))) q_16)) (congrArg (List.cons _) (congrArg (List.cons _) (congrArg (List.cons _) (congrArg (List.cons _) (rfl))))))))
        have hD : va_D A [(c0, .inr (0, [.ref (c1), .ref (c2), .ref (c3)])), (c1, .inl (cI, 9, .inl (aI (flf fv v (k + 1))))), (c2, .inl (cZ, 9, .inl (aZ (flf fz false (k + 1))))), (c3, .inr (2, [.ref (c4), .int (iI (fw))])), (c4, .inl (cL, 443, .inr (.inl (aB (rw9))))), (m0, .inr (2, [.ref (m1), .int (iI (fm))])), (m1, .inl (cL, 443, .inr (.inl (aB (row)))))] := D_same (w1 := [(c0, .inr (0, [.ref (c1), .ref (c2), .ref (c3)])), (c1, .inl (cI, 9, .inl (aI (va_up (flf fv v k) (k) (v))))), (c2, .inl (cZ, 9, .inl (aZ (va_up (flf fz false k) (k) (false))))), (c3, .inr (2, [.ref (c4), .int (iI (fw))])), (c4, .inl (cL, 443, .inr (.inl (aB (rw9))))), (m0, .inr (2, [.ref (m1), .int (iI (fm))])), (m1, .inl (cL, 443, .inr (.inl (aB (row)))))]) rfl hD
        exact ih3 (k + 1) H locs (by omega) (by omega) hP hD hS _ (lv_sub hl [0, 1, 2, 3, 4] rfl)
  exact L3 ((k9 - (0)) + 1) (0) s.heap [] (Nat.lt_succ_self _) (Nat.zero_le _) hP hD hS _ (lv_sub hl [0, 1, 2, 3, 4] rfl)

set_option maxHeartbeats 200000 in
set_option maxRecDepth 100000 in
theorem c_sr_copyAt_0 (l : Launch) (dC : Nat → ClassId) (dI : Nat → Nat → Nat) (cI cL cZ : ClassId) (r0 c0 d0 : Nat) (nf z : Int) (hz : z = 0) : Met l y_sr_copyAt (Cond.code y_sr_copyAt prog_6_method_2_code 2 (some (.object "OrganConsole$Copy")) :: TB) ({ frames := 0, cells := 0, slots := 0, locals := 0 }) (va_Pc [.ref (r0), .int (iI (z))] (PW dC dI [(r0, .inr (4, [.ref (c0), .ref (d0), .int (iI (nf))]))] [(cI, .int), (cL, .long), (cZ, .boolean)])) (k2_QcV (.ref (c0))) 0 0 (fun _ => False) := by
  refine Met.ofW (cc := prog_6_method_2_code) (maxL := 2) (ret := (some (.object "OrganConsole$Copy"))) (by decide) rfl ?_
  intro p e s m args below meth c s₁ B hml hv
  obtain ⟨ha, hP, hK⟩ := hv
  have hx := B.exec
  have hb := B.bytes
  have hr := B.returns
  have htb : ∀ w ∈ TB, w.before args s = true := fun w h => atoms_spec (ws := Cond.code y_sr_copyAt prog_6_method_2_code 2 (some (.object "OrganConsole$Copy")) :: TB) B.pre w (List.mem_cons_of_mem _ h)
  have hown : s.vm.findClass "OrganConsole$Store" = some m.cls := findClass_of_methodNamed B.named
  have hlocks := B.notSynchronized
  have hl := lv_entry ([.ref (r0), .int (iI (z))]) (n := 2) (Nat.le_of_ble_eq_true rfl)
  refine W.eq (g2 := F0 m 0 _ []) (by rw [ha]; exact lg_entry_eq m ([.ref (r0), .int (iI (z))]) 2) ?_
  generalize (lg_sl ([.ref (r0), .int (iI (z))]) ++ List.replicate (2 - (lg_sl ([.ref (r0), .int (iI (z))])).length) Slot.unset).toArray = ls at hl ⊢
  have hl : lv_has ls 2 [(0, .ref (r0)), (1, .int (iI (z)))] := hl
  refine lv_iload_n hx hb d_sr_copyAt_0 rfl (lv_at hl 1 rfl) ?_
  refine xi_if_ne (tgt := 11) hx hb ⟨by omega, by omega⟩ d_sr_copyAt_1 (by decide) (fun u_1 => ?_) (fun u_1 => ?_)
  · skip
    exact absurd hz (by omega)
  · skip
    refine lv_aload_n hx hb d_sr_copyAt_4 rfl (lv_at hl 0 rfl) ?_
    refine va_get (D := (dC, dI)) (ci := 4) (v := .ref (c0)) (C := "OrganConsole$Store") (T := T_sr) (N := 3) hx hb htb in_sr hown hK hP 0 rfl rfl 0 (by decide) (htb _ tw_176) (fun _ h9 => h9) rfl d_sr_copyAt_5 ?_
    refine lv_goto (tgt := 15) hx hb d_sr_copyAt_8 (by decide) ?_
    exact W.aret (v := .ref (c0)) hx hb hr (Or.inl ⟨_, rfl⟩) (Or.inr ⟨_, rfl⟩) (fun t ht hW => ⟨rfl, ht⟩) t_nil d_sr_copyAt_15

set_option maxHeartbeats 200000 in
set_option maxRecDepth 100000 in
theorem c_sr_copyAt_1 (l : Launch) (dC : Nat → ClassId) (dI : Nat → Nat → Nat) (cI cL cZ : ClassId) (r0 c0 d0 : Nat) (nf z : Int) (hz : z = 1) : Met l y_sr_copyAt (Cond.code y_sr_copyAt prog_6_method_2_code 2 (some (.object "OrganConsole$Copy")) :: TB) ({ frames := 0, cells := 0, slots := 0, locals := 0 }) (va_Pc [.ref (r0), .int (iI (z))] (PW dC dI [(r0, .inr (4, [.ref (c0), .ref (d0), .int (iI (nf))]))] [(cI, .int), (cL, .long), (cZ, .boolean)])) (k2_QcV (.ref (d0))) 0 0 (fun _ => False) := by
  refine Met.ofW (cc := prog_6_method_2_code) (maxL := 2) (ret := (some (.object "OrganConsole$Copy"))) (by decide) rfl ?_
  intro p e s m args below meth c s₁ B hml hv
  obtain ⟨ha, hP, hK⟩ := hv
  have hx := B.exec
  have hb := B.bytes
  have hr := B.returns
  have htb : ∀ w ∈ TB, w.before args s = true := fun w h => atoms_spec (ws := Cond.code y_sr_copyAt prog_6_method_2_code 2 (some (.object "OrganConsole$Copy")) :: TB) B.pre w (List.mem_cons_of_mem _ h)
  have hown : s.vm.findClass "OrganConsole$Store" = some m.cls := findClass_of_methodNamed B.named
  have hlocks := B.notSynchronized
  have hl := lv_entry ([.ref (r0), .int (iI (z))]) (n := 2) (Nat.le_of_ble_eq_true rfl)
  refine W.eq (g2 := F0 m 0 _ []) (by rw [ha]; exact lg_entry_eq m ([.ref (r0), .int (iI (z))]) 2) ?_
  generalize (lg_sl ([.ref (r0), .int (iI (z))]) ++ List.replicate (2 - (lg_sl ([.ref (r0), .int (iI (z))])).length) Slot.unset).toArray = ls at hl ⊢
  have hl : lv_has ls 2 [(0, .ref (r0)), (1, .int (iI (z)))] := hl
  refine lv_iload_n hx hb d_sr_copyAt_0 rfl (lv_at hl 1 rfl) ?_
  refine xi_if_ne (tgt := 11) hx hb ⟨by omega, by omega⟩ d_sr_copyAt_1 (by decide) (fun u_1 => ?_) (fun u_1 => ?_)
  · skip
    refine lv_aload_n hx hb d_sr_copyAt_11 rfl (lv_at hl 0 rfl) ?_
    refine va_get (D := (dC, dI)) (ci := 4) (v := .ref (d0)) (C := "OrganConsole$Store") (T := T_sr) (N := 3) hx hb htb in_sr hown hK hP 0 rfl rfl 1 (by decide) (htb _ tw_177) (fun _ h9 => h9) rfl d_sr_copyAt_12 ?_
    exact W.aret (v := .ref (d0)) hx hb hr (Or.inl ⟨_, rfl⟩) (Or.inr ⟨_, rfl⟩) (fun t ht hW => ⟨rfl, ht⟩) t_nil d_sr_copyAt_15
  · skip
    exact absurd hz (by omega)

set_option maxHeartbeats 200000 in
set_option maxRecDepth 100000 in
theorem c_sr_versionInForce (l : Launch) (dC : Nat → ClassId) (dI : Nat → Nat → Nat) (cI cL cZ : ClassId) (r0 : Nat) (nf : Int) (c0 c1 c2 c3 c4 : Nat) (fv : Nat → Int) (fz : Nat → Bool) (rw9 : Nat → Nat → Bool) (fw : Int) (d0 d1 d2 d3 d4 : Nat) (gw : Nat → Int) (gz : Nat → Bool) (rx9 : Nat → Nat → Bool) (fx : Int) (hnf : nf = -1 ∨ nf = 0 ∨ nf = 1) : Met l y_sr_versionInForce (Cond.code y_sr_versionInForce prog_6_method_3_code 1 (some .int) :: TB) ({ frames := 1, cells := 0, slots := 0, locals := 21 }) (va_Pc [.ref (r0)] (PW dC dI [(r0, .inr (4, [.ref (c0), .ref (d0), .int (iI (nf))])), (c0, .inr (0, [.ref (c1), .ref (c2), .ref (c3)])), (c1, .inl (cI, 9, .inl (aI (fv)))), (c2, .inl (cZ, 9, .inl (aZ (fz)))), (c3, .inr (2, [.ref (c4), .int (iI (fw))])), (c4, .inl (cL, 443, .inr (.inl (aB (rw9))))), (d0, .inr (0, [.ref (d1), .ref (d2), .ref (d3)])), (d1, .inl (cI, 9, .inl (aI (gw)))), (d2, .inl (cZ, 9, .inl (aZ (gz)))), (d3, .inr (2, [.ref (d4), .int (iI (fx))])), (d4, .inl (cL, 443, .inr (.inl (aB (rx9)))))] [(cI, .int), (cL, .long), (cZ, .boolean)])) (k2_QcV (.int (iI (if nf = -1 then 0 else if nf = 0 then fv 8 else gw 8)))) 0 0 (fun _ => False) := by
  refine Met.ofW (cc := prog_6_method_3_code) (maxL := 1) (ret := (some .int)) (by decide) rfl ?_
  intro p e s m args below meth c s₁ B hml hv
  obtain ⟨ha, hP, hK⟩ := hv
  have hx := B.exec
  have hb := B.bytes
  have hr := B.returns
  have htb : ∀ w ∈ TB, w.before args s = true := fun w h => atoms_spec (ws := Cond.code y_sr_versionInForce prog_6_method_3_code 1 (some .int) :: TB) B.pre w (List.mem_cons_of_mem _ h)
  have hown : s.vm.findClass "OrganConsole$Store" = some m.cls := findClass_of_methodNamed B.named
  have hlocks := B.notSynchronized
  have hl := lv_entry ([.ref (r0)]) (n := 1) (Nat.le_of_ble_eq_true rfl)
  refine W.eq (g2 := F0 m 0 _ []) (by rw [ha]; exact lg_entry_eq m ([.ref (r0)]) 1) ?_
  generalize (lg_sl ([.ref (r0)]) ++ List.replicate (1 - (lg_sl ([.ref (r0)])).length) Slot.unset).toArray = ls at hl ⊢
  have hl : lv_has ls 1 [(0, .ref (r0))] := hl
  refine lv_aload_n hx hb d_sr_versionInForce_0 rfl (lv_at hl 0 rfl) ?_
  refine va_get (D := (dC, dI)) (ci := 4) (v := .int (iI (nf))) (C := "OrganConsole$Store") (T := T_sr) (N := 3) hx hb htb in_sr hown hK hP 0 rfl rfl 2 (by decide) (htb _ tw_178) (fun _ h9 => h9) rfl d_sr_versionInForce_1 ?_
  refine lv_iconst (v := iI (-1)) hx hb d_sr_versionInForce_4 rfl ?_
  refine xi_icmp_ne (tgt := 12) hx hb ⟨by omega, by omega⟩ ⟨by omega, by omega⟩ d_sr_versionInForce_5 (by decide) (fun u_1 => ?_) (fun u_1 => ?_)
  · skip
    by_cases u_2 : nf = 0
    · skip
      refine lv_aload_n hx hb d_sr_versionInForce_12 rfl (lv_at hl 0 rfl) ?_
      refine lv_aload_n hx hb d_sr_versionInForce_13 rfl (lv_at hl 0 rfl) ?_
      refine va_get (D := (dC, dI)) (ci := 4) (v := .int (iI (nf))) (C := "OrganConsole$Store") (T := T_sr) (N := 3) hx hb htb in_sr hown hK hP 0 rfl rfl 2 (by decide) (htb _ tw_178) (fun _ h9 => h9) rfl d_sr_versionInForce_14 ?_
      refine pcV hx hb hml hown htb (c_sr_copyAt_0 l dC dI cI cL cZ r0 c0 d0 nf nf (by omega)) tw_253 tw_254 tw_255 tw_38 tw_256 1 (by decide +kernel) rfl rfl ⟨Nat.le_of_ble_eq_true rfl, Nat.le_of_ble_eq_true rfl⟩ ⟨Nat.zero_le _, Nat.zero_le _⟩ [.int (iI (nf))] (PW_V (q0 := 0) (ci := 4) (ws := [(r0, .inr (4, [.ref (c0), .ref (d0), .int (iI (nf))]))]) hP (hP.sub [0] rfl) hK rfl rfl) rfl hl.1 rfl (Nat.le_of_ble_eq_true rfl) d_sr_versionInForce_17 ?_
      refine va_get (D := (dC, dI)) (ci := 0) (v := .ref (c1)) (C := "OrganConsole$Copy") (T := T_cp) (N := 3) hx hb htb in_cp hown hK hP 1 rfl rfl 0 (by decide) (htb _ tw_162) (fun _ h9 => h9) rfl d_sr_versionInForce_20 ?_
      refine lv_bipush (v := iI (8)) hx hb d_sr_versionInForce_23 (by decide +kernel) ?_
      refine xa_iald hx hb hK hP 2 0 rfl rfl 8 (by rfl) (by omega) (by decide) d_sr_versionInForce_25 ?_
      have q_3 : iI ((fv) 8) = iI (if nf = -1 then 0 else if nf = 0 then fv 8 else gw 8) := by
        congr 1; first | (rw [if_pos (by omega)]; done) | (rw [if_neg (by omega), if_pos (by omega)]; done) | (rw [if_neg (by omega), if_neg (by omega)]; done)
      rw [q_3]
      exact W.iret (v := iI (if nf = -1 then 0 else if nf = 0 then fv 8 else gw 8)) hx hb hr (fun t ht hW => ⟨rfl, ht⟩) t_nil d_sr_versionInForce_26
    · skip
      refine lv_aload_n hx hb d_sr_versionInForce_12 rfl (lv_at hl 0 rfl) ?_
      refine lv_aload_n hx hb d_sr_versionInForce_13 rfl (lv_at hl 0 rfl) ?_
      refine va_get (D := (dC, dI)) (ci := 4) (v := .int (iI (nf))) (C := "OrganConsole$Store") (T := T_sr) (N := 3) hx hb htb in_sr hown hK hP 0 rfl rfl 2 (by decide) (htb _ tw_178) (fun _ h9 => h9) rfl d_sr_versionInForce_14 ?_
      refine pcV hx hb hml hown htb (c_sr_copyAt_1 l dC dI cI cL cZ r0 c0 d0 nf nf (by omega)) tw_253 tw_254 tw_255 tw_38 tw_256 1 (by decide +kernel) rfl rfl ⟨Nat.le_of_ble_eq_true rfl, Nat.le_of_ble_eq_true rfl⟩ ⟨Nat.zero_le _, Nat.zero_le _⟩ [.int (iI (nf))] (PW_V (q0 := 0) (ci := 4) (ws := [(r0, .inr (4, [.ref (c0), .ref (d0), .int (iI (nf))]))]) hP (hP.sub [0] rfl) hK rfl rfl) rfl hl.1 rfl (Nat.le_of_ble_eq_true rfl) d_sr_versionInForce_17 ?_
      refine va_get (D := (dC, dI)) (ci := 0) (v := .ref (d1)) (C := "OrganConsole$Copy") (T := T_cp) (N := 3) hx hb htb in_cp hown hK hP 6 rfl rfl 0 (by decide) (htb _ tw_162) (fun _ h9 => h9) rfl d_sr_versionInForce_20 ?_
      refine lv_bipush (v := iI (8)) hx hb d_sr_versionInForce_23 (by decide +kernel) ?_
      refine xa_iald hx hb hK hP 7 0 rfl rfl 8 (by rfl) (by omega) (by decide) d_sr_versionInForce_25 ?_
      have q_4 : iI ((gw) 8) = iI (if nf = -1 then 0 else if nf = 0 then fv 8 else gw 8) := by
        congr 1; first | (rw [if_pos (by omega)]; done) | (rw [if_neg (by omega), if_pos (by omega)]; done) | (rw [if_neg (by omega), if_neg (by omega)]; done)
      rw [q_4]
      exact W.iret (v := iI (if nf = -1 then 0 else if nf = 0 then fv 8 else gw 8)) hx hb hr (fun t ht hW => ⟨rfl, ht⟩) t_nil d_sr_versionInForce_26
  · skip
    refine lv_iconst (v := iI (0)) hx hb d_sr_versionInForce_8 rfl ?_
    refine lv_goto (tgt := 26) hx hb d_sr_versionInForce_9 (by decide) ?_
    have q_5 : iI (0) = iI (if nf = -1 then 0 else if nf = 0 then fv 8 else gw 8) := by
      congr 1; first | (rw [if_pos (by omega)]; done) | (rw [if_neg (by omega), if_pos (by omega)]; done) | (rw [if_neg (by omega), if_neg (by omega)]; done)
    rw [q_5]
    exact W.iret (v := iI (if nf = -1 then 0 else if nf = 0 then fv 8 else gw 8)) hx hb hr (fun t ht hW => ⟨rfl, ht⟩) t_nil d_sr_versionInForce_26

set_option maxHeartbeats 200000 in
set_option maxRecDepth 100000 in
theorem c_sr_newestWhole (l : Launch) (dC : Nat → ClassId) (dI : Nat → Nat → Nat) (cI cL cZ : ClassId) (r0 : Nat) (nf : Int) (c0 c1 c2 c3 c4 : Nat) (fv : Nat → Int) (fz : Nat → Bool) (rw9 : Nat → Nat → Bool) (fw : Int) (d0 d1 d2 d3 d4 : Nat) (gw : Nat → Int) (gz : Nat → Bool) (rx9 : Nat → Nat → Bool) (fx : Int) (hnf : nf = -1 ∨ nf = 0 ∨ nf = 1) (hv : ∀ p, 0 ≤ fv p ∧ fv p ≤ 100000) (hgw : ∀ p, 0 ≤ gw p ∧ gw p ≤ 100000) : Met l y_sr_newestWhole (Cond.code y_sr_newestWhole prog_6_method_6_code 3 (some .int) :: TB) ({ frames := 1, cells := 0, slots := 0, locals := 21 }) (va_Pc [.ref (r0)] (PW dC dI [(r0, .inr (4, [.ref (c0), .ref (d0), .int (iI (nf))])), (c0, .inr (0, [.ref (c1), .ref (c2), .ref (c3)])), (c1, .inl (cI, 9, .inl (aI (fv)))), (c2, .inl (cZ, 9, .inl (aZ (fz)))), (c3, .inr (2, [.ref (c4), .int (iI (fw))])), (c4, .inl (cL, 443, .inr (.inl (aB (rw9))))), (d0, .inr (0, [.ref (d1), .ref (d2), .ref (d3)])), (d1, .inl (cI, 9, .inl (aI (gw)))), (d2, .inl (cZ, 9, .inl (aZ (gz)))), (d3, .inr (2, [.ref (d4), .int (iI (fx))])), (d4, .inl (cL, 443, .inr (.inl (aB (rx9)))))] [(cI, .int), (cL, .long), (cZ, .boolean)])) (k2_QcV (.int (iI (nw (wv fv fz) (wv gw gz))))) 0 0 (fun _ => False) := by
  refine Met.ofW (cc := prog_6_method_6_code) (maxL := 3) (ret := (some .int)) (by decide) rfl ?_
  intro p e s m args below meth c s₁ B hml hv
  obtain ⟨ha, hP, hK⟩ := hv
  have hx := B.exec
  have hb := B.bytes
  have hr := B.returns
  have htb : ∀ w ∈ TB, w.before args s = true := fun w h => atoms_spec (ws := Cond.code y_sr_newestWhole prog_6_method_6_code 3 (some .int) :: TB) B.pre w (List.mem_cons_of_mem _ h)
  have hown : s.vm.findClass "OrganConsole$Store" = some m.cls := findClass_of_methodNamed B.named
  have hlocks := B.notSynchronized
  have hl := lv_entry ([.ref (r0)]) (n := 3) (Nat.le_of_ble_eq_true rfl)
  refine W.eq (g2 := F0 m 0 _ []) (by rw [ha]; exact lg_entry_eq m ([.ref (r0)]) 3) ?_
  generalize (lg_sl ([.ref (r0)]) ++ List.replicate (3 - (lg_sl ([.ref (r0)])).length) Slot.unset).toArray = ls at hl ⊢
  have hl : lv_has ls 3 [(0, .ref (r0))] := hl
  refine lv_aload_n hx hb d_sr_newestWhole_0 rfl (lv_at hl 0 rfl) ?_
  refine va_get (D := (dC, dI)) (ci := 4) (v := .ref (c0)) (C := "OrganConsole$Store") (T := T_sr) (N := 3) hx hb htb in_sr hown hK hP 0 rfl rfl 0 (by decide) (htb _ tw_176) (fun _ h9 => h9) rfl d_sr_newestWhole_1 ?_
  refine pcV hx hb hml hown htb (c_cp_wholeVersion l dC dI cI cL cZ c0 c1 c2 c3 fv fz hv) tw_242 tw_243 tw_244 tw_39 tw_245 0 (by decide +kernel) rfl rfl ⟨Nat.le_of_ble_eq_true rfl, Nat.le_of_ble_eq_true rfl⟩ ⟨Nat.zero_le _, Nat.zero_le _⟩ [] (PW_V (q0 := 1) (ci := 0) (ws := [(c0, .inr (0, [.ref (c1), .ref (c2), .ref (c3)])), (c1, .inl (cI, 9, .inl (aI (fv)))), (c2, .inl (cZ, 9, .inl (aZ (fz))))]) hP (hP.sub [1, 2, 3] rfl) hK rfl rfl) rfl hl.1 rfl (Nat.le_of_ble_eq_true rfl) d_sr_newestWhole_4 ?_
  refine lv_istore_n hx hb d_sr_newestWhole_7 rfl hl (by decide) rfl (fun ls hl => ?_)
  have hl : lv_has ls 3 [(1, .int (iI (wv fv fz))), (0, .ref (r0))] := hl
  refine lv_aload_n hx hb d_sr_newestWhole_8 rfl (lv_at hl 1 rfl) ?_
  refine va_get (D := (dC, dI)) (ci := 4) (v := .ref (d0)) (C := "OrganConsole$Store") (T := T_sr) (N := 3) hx hb htb in_sr hown hK hP 0 rfl rfl 1 (by decide) (htb _ tw_177) (fun _ h9 => h9) rfl d_sr_newestWhole_9 ?_
  refine pcV hx hb hml hown htb (c_cp_wholeVersion l dC dI cI cL cZ d0 d1 d2 d3 gw gz hgw) tw_242 tw_243 tw_244 tw_39 tw_245 0 (by decide +kernel) rfl rfl ⟨Nat.le_of_ble_eq_true rfl, Nat.le_of_ble_eq_true rfl⟩ ⟨Nat.zero_le _, Nat.zero_le _⟩ [] (PW_V (q0 := 6) (ci := 0) (ws := [(d0, .inr (0, [.ref (d1), .ref (d2), .ref (d3)])), (d1, .inl (cI, 9, .inl (aI (gw)))), (d2, .inl (cZ, 9, .inl (aZ (gz))))]) hP (hP.sub [6, 7, 8] rfl) hK rfl rfl) rfl hl.1 rfl (Nat.le_of_ble_eq_true rfl) d_sr_newestWhole_12 ?_
  refine lv_istore_n hx hb d_sr_newestWhole_15 rfl hl (by decide) rfl (fun ls hl => ?_)
  have hl : lv_has ls 3 [(2, .int (iI (wv gw gz))), (1, .int (iI (wv fv fz))), (0, .ref (r0))] := hl
  have h91 := wv_in hv fz
  have h92 := wv_in hgw gz
  refine lv_iload_n hx hb d_sr_newestWhole_16 rfl (lv_at hl 1 rfl) ?_
  refine xi_if_ne (tgt := 26) hx hb ⟨by omega, by omega⟩ d_sr_newestWhole_17 (by decide) (fun u_1 => ?_) (fun u_1 => ?_)
  · skip
    refine lv_iload_n hx hb d_sr_newestWhole_26 rfl (lv_at hl 1 rfl) ?_
    refine lv_iload_n hx hb d_sr_newestWhole_27 rfl (lv_at hl 0 rfl) ?_
    refine xi_icmp_lt (tgt := 35) hx hb ⟨by omega, by omega⟩ ⟨by omega, by omega⟩ d_sr_newestWhole_28 (by decide) (fun u_2 => ?_) (fun u_2 => ?_)
    · skip
      refine lv_iconst (v := iI (1)) hx hb d_sr_newestWhole_35 rfl ?_
      have q_3 : iI (1) = iI (nw (wv fv fz) (wv gw gz)) := by
        congr 1; unfold nw; first | (rw [if_pos (by omega)]; done) | (rw [if_neg (by omega), if_pos (by omega)]; done) | (rw [if_neg (by omega), if_neg (by omega)]; done)
      rw [q_3]
      exact W.iret (v := iI (nw (wv fv fz) (wv gw gz))) hx hb hr (fun t ht hW => ⟨rfl, ht⟩) t_nil d_sr_newestWhole_36
    · skip
      refine lv_iconst (v := iI (0)) hx hb d_sr_newestWhole_31 rfl ?_
      refine lv_goto (tgt := 36) hx hb d_sr_newestWhole_32 (by decide) ?_
      have q_4 : iI (0) = iI (nw (wv fv fz) (wv gw gz)) := by
        congr 1; unfold nw; first | (rw [if_pos (by omega)]; done) | (rw [if_neg (by omega), if_pos (by omega)]; done) | (rw [if_neg (by omega), if_neg (by omega)]; done)
      rw [q_4]
      exact W.iret (v := iI (nw (wv fv fz) (wv gw gz))) hx hb hr (fun t ht hW => ⟨rfl, ht⟩) t_nil d_sr_newestWhole_36
  · skip
    refine lv_iload_n hx hb d_sr_newestWhole_20 rfl (lv_at hl 0 rfl) ?_
    refine xi_if_ne (tgt := 26) hx hb ⟨by omega, by omega⟩ d_sr_newestWhole_21 (by decide) (fun u_5 => ?_) (fun u_5 => ?_)
    · skip
      refine lv_iload_n hx hb d_sr_newestWhole_26 rfl (lv_at hl 1 rfl) ?_
      refine lv_iload_n hx hb d_sr_newestWhole_27 rfl (lv_at hl 0 rfl) ?_
      refine xi_icmp_lt (tgt := 35) hx hb ⟨by omega, by omega⟩ ⟨by omega, by omega⟩ d_sr_newestWhole_28 (by decide) (fun u_6 => ?_) (fun u_6 => ?_)
      · skip
        refine lv_iconst (v := iI (1)) hx hb d_sr_newestWhole_35 rfl ?_
        have q_7 : iI (1) = iI (nw (wv fv fz) (wv gw gz)) := by
          congr 1; unfold nw; first | (rw [if_pos (by omega)]; done) | (rw [if_neg (by omega), if_pos (by omega)]; done) | (rw [if_neg (by omega), if_neg (by omega)]; done)
        rw [q_7]
        exact W.iret (v := iI (nw (wv fv fz) (wv gw gz))) hx hb hr (fun t ht hW => ⟨rfl, ht⟩) t_nil d_sr_newestWhole_36
      · skip
        refine lv_iconst (v := iI (0)) hx hb d_sr_newestWhole_31 rfl ?_
        refine lv_goto (tgt := 36) hx hb d_sr_newestWhole_32 (by decide) ?_
        have q_8 : iI (0) = iI (nw (wv fv fz) (wv gw gz)) := by
          congr 1; unfold nw; first | (rw [if_pos (by omega)]; done) | (rw [if_neg (by omega), if_pos (by omega)]; done) | (rw [if_neg (by omega), if_neg (by omega)]; done)
        rw [q_8]
        exact W.iret (v := iI (nw (wv fv fz) (wv gw gz))) hx hb hr (fun t ht hW => ⟨rfl, ht⟩) t_nil d_sr_newestWhole_36
    · skip
      refine lv_iconst (v := iI (-1)) hx hb d_sr_newestWhole_24 rfl ?_
      have q_9 : iI ((-1)) = iI (nw (wv fv fz) (wv gw gz)) := by
        congr 1; unfold nw; first | (rw [if_pos (by omega)]; done) | (rw [if_neg (by omega), if_pos (by omega)]; done) | (rw [if_neg (by omega), if_neg (by omega)]; done)
      rw [q_9]
      exact W.iret (v := iI (nw (wv fv fz) (wv gw gz))) hx hb hr (fun t ht hW => ⟨rfl, ht⟩) t_nil d_sr_newestWhole_25

set_option maxHeartbeats 200000 in
set_option maxRecDepth 100000 in
theorem c_sr_write (l : Launch) (dC : Nat → ClassId) (dI : Nat → Nat → Nat) (cI cL cZ : ClassId) (sz : Nat) (r0 : Nat) (nf : Int) (c0 c1 c2 c3 c4 : Nat) (fv : Nat → Int) (fz : Nat → Bool) (rw9 : Nat → Nat → Bool) (fw : Int) (d0 d1 d2 d3 d4 : Nat) (gw : Nat → Int) (gz : Nat → Bool) (rx9 : Nat → Nat → Bool) (fx : Int) (hnf : nf = -1 ∨ nf = 0 ∨ nf = 1) (hv : ∀ p, 0 ≤ fv p ∧ fv p ≤ 100000) (hgw : ∀ p, 0 ≤ gw p ∧ gw p ≤ 100000) (m0 m1 : Nat) (row : Nat → Nat → Bool) (fm : Int) (k9 : Nat) (z : Int) (hz : z = (k9 : Int)) (hk9 : k9 ≤ 9) : Met l y_sr_write (Cond.code y_sr_write prog_6_method_4_code 5 none :: TB) ({ frames := 3, cells := 0, slots := 0, locals := 93 }) (va_Pc [.ref (r0), .ref (m0), .int (iI (z))] (PS dC dI [(r0, .inr (4, [.ref (c0), .ref (d0), .int (iI (nf))])), (c0, .inr (0, [.ref (c1), .ref (c2), .ref (c3)])), (c1, .inl (cI, 9, .inl (aI (fv)))), (c2, .inl (cZ, 9, .inl (aZ (fz)))), (c3, .inr (2, [.ref (c4), .int (iI (fw))])), (c4, .inl (cL, 443, .inr (.inl (aB (rw9))))), (d0, .inr (0, [.ref (d1), .ref (d2), .ref (d3)])), (d1, .inl (cI, 9, .inl (aI (gw)))), (d2, .inl (cZ, 9, .inl (aZ (gz)))), (d3, .inr (2, [.ref (d4), .int (iI (fx))])), (d4, .inl (cL, 443, .inr (.inl (aB (rx9))))), (m0, .inr (2, [.ref (m1), .int (iI (fm))])), (m1, .inl (cL, 443, .inr (.inl (aB (row)))))] [(cI, .int), (cL, .long), (cZ, .boolean)] sz)) (QW dC dI none [(r0, .inr (4, [.ref (c0), .ref (d0), .int (iI (if k9 = 9 then (if nf = 0 then 1 else 0) else nf))])), (c0, .inr (0, [.ref (c1), .ref (c2), .ref (c3)])), (c1, .inl (cI, 9, .inl (aI (if ¬ nf = 0 then flf fv (max (gv fv 9) (gv gw 9) + 1) k9 else fv)))), (c2, .inl (cZ, 9, .inl (aZ (if ¬ nf = 0 then flf fz false k9 else fz)))), (c3, .inr (2, [.ref (c4), .int (iI (if ¬ nf = 0 ∧ k9 = 9 then fm else fw))])), (c4, .inl (cL, 443, .inr (.inl (aB (if ¬ nf = 0 ∧ k9 = 9 then va_cpy row rw9 0 0 443 else rw9))))), (d0, .inr (0, [.ref (d1), .ref (d2), .ref (d3)])), (d1, .inl (cI, 9, .inl (aI (if nf = 0 then flf gw (max (gv fv 9) (gv gw 9) + 1) k9 else gw)))), (d2, .inl (cZ, 9, .inl (aZ (if nf = 0 then flf gz false k9 else gz)))), (d3, .inr (2, [.ref (d4), .int (iI (if nf = 0 ∧ k9 = 9 then fm else fx))])), (d4, .inl (cL, 443, .inr (.inl (aB (if nf = 0 ∧ k9 = 9 then va_cpy row rx9 0 0 443 else rx9))))), (m0, .inr (2, [.ref (m1), .int (iI (fm))])), (m1, .inl (cL, 443, .inr (.inl (aB (row)))))] (va_A [(r0, .inr (4, [.ref (c0), .ref (d0), .int (iI (nf))])), (c0, .inr (0, [.ref (c1), .ref (c2), .ref (c3)])), (c1, .inl (cI, 9, .inl (aI (fv)))), (c2, .inl (cZ, 9, .inl (aZ (fz)))), (c3, .inr (2, [.ref (c4), .int (iI (fw))])), (c4, .inl (cL, 443, .inr (.inl (aB (rw9))))), (d0, .inr (0, [.ref (d1), .ref (d2), .ref (d3)])), (d1, .inl (cI, 9, .inl (aI (gw)))), (d2, .inl (cZ, 9, .inl (aZ (gz)))), (d3, .inr (2, [.ref (d4), .int (iI (fx))])), (d4, .inl (cL, 443, .inr (.inl (aB (rx9))))), (m0, .inr (2, [.ref (m1), .int (iI (fm))])), (m1, .inl (cL, 443, .inr (.inl (aB (row)))))] sz)) 0 0 (va_A [(r0, .inr (4, [.ref (c0), .ref (d0), .int (iI (nf))])), (c0, .inr (0, [.ref (c1), .ref (c2), .ref (c3)])), (c1, .inl (cI, 9, .inl (aI (fv)))), (c2, .inl (cZ, 9, .inl (aZ (fz)))), (c3, .inr (2, [.ref (c4), .int (iI (fw))])), (c4, .inl (cL, 443, .inr (.inl (aB (rw9))))), (d0, .inr (0, [.ref (d1), .ref (d2), .ref (d3)])), (d1, .inl (cI, 9, .inl (aI (gw)))), (d2, .inl (cZ, 9, .inl (aZ (gz)))), (d3, .inr (2, [.ref (d4), .int (iI (fx))])), (d4, .inl (cL, 443, .inr (.inl (aB (rx9))))), (m0, .inr (2, [.ref (m1), .int (iI (fm))])), (m1, .inl (cL, 443, .inr (.inl (aB (row)))))] sz) := by
  refine Met.ofW (cc := prog_6_method_4_code) (maxL := 5) (ret := none) (by decide) rfl ?_
  intro p e s m args below meth c s₁ B hml hv
  obtain ⟨ha, hsz, hP, hK, hD0, hN⟩ := hv
  have hx := B.exec
  have hb := B.bytes
  have hr := B.returns
  have htb : ∀ w ∈ TB, w.before args s = true := fun w h => atoms_spec (ws := Cond.code y_sr_write prog_6_method_4_code 5 none :: TB) B.pre w (List.mem_cons_of_mem _ h)
  have hown : s.vm.findClass "OrganConsole$Store" = some m.cls := findClass_of_methodNamed B.named
  have hlocks := B.notSynchronized
  subst hsz
  have hD := hD0.self (sz := s.heap.size)
  generalize hAe : va_A [(r0, .inr (4, [.ref (c0), .ref (d0), .int (iI (nf))])), (c0, .inr (0, [.ref (c1), .ref (c2), .ref (c3)])), (c1, .inl (cI, 9, .inl (aI (fv)))), (c2, .inl (cZ, 9, .inl (aZ (fz)))), (c3, .inr (2, [.ref (c4), .int (iI (fw))])), (c4, .inl (cL, 443, .inr (.inl (aB (rw9))))), (d0, .inr (0, [.ref (d1), .ref (d2), .ref (d3)])), (d1, .inl (cI, 9, .inl (aI (gw)))), (d2, .inl (cZ, 9, .inl (aZ (gz)))), (d3, .inr (2, [.ref (d4), .int (iI (fx))])), (d4, .inl (cL, 443, .inr (.inl (aB (rx9))))), (m0, .inr (2, [.ref (m1), .int (iI (fm))])), (m1, .inl (cL, 443, .inr (.inl (aB (row)))))] s.heap.size = A at hD ⊢
  have hA : ∀ q : Nat, s.heap.size ≤ q → A q := fun q h => by rw [← hAe]; exact Or.inr h
  have hS : va_S A s.heap s.heap [] := va_S.rf
  have hl := lv_entry ([.ref (r0), .ref (m0), .int (iI (z))]) (n := 5) (Nat.le_of_ble_eq_true rfl)
  refine W.eq (g2 := F0 m 0 _ []) (by rw [ha]; exact lg_entry_eq m ([.ref (r0), .ref (m0), .int (iI (z))]) 5) ?_
  generalize (lg_sl ([.ref (r0), .ref (m0), .int (iI (z))]) ++ List.replicate (5 - (lg_sl ([.ref (r0), .ref (m0), .int (iI (z))])).length) Slot.unset).toArray = ls at hl ⊢
  have hl : lv_has ls 5 [(0, .ref (r0)), (1, .ref (m0)), (2, .int (iI (z)))] := hl
  refine lv_aload_n hx hb d_sr_write_0 rfl (lv_at hl 0 rfl) ?_
  refine va_get (D := (dC, dI)) (ci := 4) (v := .int (iI (nf))) (C := "OrganConsole$Store") (T := T_sr) (N := 3) hx hb htb in_sr hown hK hP 0 rfl rfl 2 (by decide) (htb _ tw_178) (fun _ h9 => h9) rfl d_sr_write_1 ?_
  refine xi_if_ne (tgt := 11) hx hb ⟨by omega, by omega⟩ d_sr_write_4 (by decide) (fun u_1 => ?_) (fun u_1 => ?_)
  · skip
    refine lv_iconst (v := iI (0)) hx hb d_sr_write_11 rfl ?_
    refine lv_istore_n hx hb d_sr_write_12 rfl hl (by decide) rfl (fun ls hl => ?_)
    have hl : lv_has ls 5 [(3, .int (iI (0))), (0, .ref (r0)), (1, .ref (m0)), (2, .int (iI (z)))] := hl
    have hg1 := gv_in hv 9
    have hg2 := gv_in hgw 9
    refine lv_aload_n hx hb d_sr_write_13 rfl (lv_at hl 1 rfl) ?_
    refine va_get (D := (dC, dI)) (ci := 4) (v := .ref (c0)) (C := "OrganConsole$Store") (T := T_sr) (N := 3) hx hb htb in_sr hown hK hP 0 rfl rfl 0 (by decide) (htb _ tw_176) (fun _ h9 => h9) rfl d_sr_write_14 ?_
    refine pcV hx hb hml hown htb (c_cp_greatestVersion l dC dI cI cL cZ c0 c1 c2 c3 fv fz hv) tw_671 tw_672 tw_673 tw_39 tw_674 0 (by decide +kernel) rfl rfl ⟨Nat.le_of_ble_eq_true rfl, Nat.le_of_ble_eq_true rfl⟩ ⟨Nat.zero_le _, Nat.zero_le _⟩ [] (PW_V (q0 := 1) (ci := 0) (ws := [(c0, .inr (0, [.ref (c1), .ref (c2), .ref (c3)])), (c1, .inl (cI, 9, .inl (aI (fv)))), (c2, .inl (cZ, 9, .inl (aZ (fz))))]) hP (hP.sub [1, 2, 3] rfl) hK rfl rfl) rfl hl.1 rfl (Nat.le_of_ble_eq_true rfl) d_sr_write_17 ?_
    refine lv_aload_n hx hb d_sr_write_20 rfl (lv_at hl 1 rfl) ?_
    refine va_get (D := (dC, dI)) (ci := 4) (v := .ref (d0)) (C := "OrganConsole$Store") (T := T_sr) (N := 3) hx hb htb in_sr hown hK hP 0 rfl rfl 1 (by decide) (htb _ tw_177) (fun _ h9 => h9) rfl d_sr_write_21 ?_
    refine pcV hx hb hml hown htb (c_cp_greatestVersion l dC dI cI cL cZ d0 d1 d2 d3 gw gz hgw) tw_671 tw_672 tw_673 tw_39 tw_674 0 (by decide +kernel) rfl rfl ⟨Nat.le_of_ble_eq_true rfl, Nat.le_of_ble_eq_true rfl⟩ ⟨Nat.zero_le _, Nat.zero_le _⟩ [] (PW_V (q0 := 6) (ci := 0) (ws := [(d0, .inr (0, [.ref (d1), .ref (d2), .ref (d3)])), (d1, .inl (cI, 9, .inl (aI (gw)))), (d2, .inl (cZ, 9, .inl (aZ (gz))))]) hP (hP.sub [6, 7, 8] rfl) hK rfl rfl) rfl hl.1 rfl (Nat.le_of_ble_eq_true rfl) d_sr_write_24 ?_
    refine pcS hx hb hml hown htb (c_jm_max l (gv fv 9) (gv gw 9) ⟨by omega, by omega⟩ ⟨by omega, by omega⟩) tw_676 tw_636 tw_49 tw_637 2 (by decide +kernel) rfl rfl ⟨Nat.le_of_ble_eq_true rfl, Nat.le_of_ble_eq_true rfl⟩ ⟨Nat.zero_le _, Nat.zero_le _⟩ [.int (iI (gv fv 9)), .int (iI (gv gw 9))] ⟨fun _ _ _ _ q => q, fun U _ _ => ⟨rfl, trivial⟩⟩ rfl hl.1 rfl (Nat.le_of_ble_eq_true rfl) d_sr_write_27 ?_
    refine lv_iconst (v := iI (1)) hx hb d_sr_write_30 rfl ?_
    refine xi_add hx hb d_sr_write_31 ?_
    refine lv_istore hx hb d_sr_write_32 hl (by decide) rfl (fun ls hl => ?_)
    have hl : lv_has ls 5 [(4, .int (iI ((max (gv fv 9) (gv gw 9)) + (1)))), (3, .int (iI (0))), (0, .ref (r0)), (1, .ref (m0)), (2, .int (iI (z)))] := hl
    refine lv_aload_n hx hb d_sr_write_34 rfl (lv_at hl 2 rfl) ?_
    refine lv_iload_n hx hb d_sr_write_35 rfl (lv_at hl 1 rfl) ?_
    refine pcV hx hb hml hown htb (c_sr_copyAt_0 l dC dI cI cL cZ r0 c0 d0 nf 0 (by omega)) tw_253 tw_254 tw_255 tw_38 tw_256 1 (by decide +kernel) rfl rfl ⟨Nat.le_of_ble_eq_true rfl, Nat.le_of_ble_eq_true rfl⟩ ⟨Nat.zero_le _, Nat.zero_le _⟩ [.int (iI (0))] (PW_V (q0 := 0) (ci := 4) (ws := [(r0, .inr (4, [.ref (c0), .ref (d0), .int (iI (nf))]))]) hP (hP.sub [0] rfl) hK rfl rfl) rfl hl.1 rfl (Nat.le_of_ble_eq_true rfl) d_sr_write_36 ?_
    refine lv_aload_n hx hb d_sr_write_39 rfl (lv_at hl 3 rfl) ?_
    refine lv_iload hx hb d_sr_write_40 (lv_at hl 0 rfl) ?_
    refine lv_iload_n hx hb d_sr_write_42 rfl (lv_at hl 4 rfl) ?_
    have hFc := va_free (wc := [(c0, .inr (0, [.ref (c1), .ref (c2), .ref (c3)])), (c1, .inl (cI, 9, .inl (aI (fv)))), (c2, .inl (cZ, 9, .inl (aZ (fz)))), (c3, .inr (2, [.ref (c4), .int (iI (fw))])), (c4, .inl (cL, 443, .inr (.inl (aB (rw9))))), (m0, .inr (2, [.ref (m1), .int (iI (fm))])), (m1, .inl (cL, 443, .inr (.inl (aB (row)))))]) hD hS hA [1, 2, 3, 4, 5, 11, 12] rfl
    refine wcV hx hb hml hown htb (c_cp_writePages l dC dI cI cL cZ s.heap.size c0 c1 c2 c3 c4 fv fz rw9 fw m0 m1 row fm ((max (gv fv 9) (gv gw 9)) + (1)) k9  _ (by omega) (by omega)) tw_677 tw_678 tw_679 tw_39 tw_680 3 (by decide +kernel) rfl rfl ⟨Nat.le_of_ble_eq_true rfl, Nat.le_of_ble_eq_true rfl⟩ ⟨Nat.zero_le _, Nat.zero_le _⟩ [.ref (m0), .int (iI ((max (gv fv 9) (gv gw 9)) + (1))), .int (iI (z))] (PS_V (q0 := 1) (ci := 0) (ws := [(c0, .inr (0, [.ref (c1), .ref (c2), .ref (c3)])), (c1, .inl (cI, 9, .inl (aI (fv)))), (c2, .inl (cZ, 9, .inl (aZ (fz)))), (c3, .inr (2, [.ref (c4), .int (iI (fw))])), (c4, .inl (cL, 443, .inr (.inl (aB (rw9))))), (m0, .inr (2, [.ref (m1), .int (iI (fm))])), (m1, .inl (cL, 443, .inr (.inl (aB (row)))))]) hP (hP.sub [1, 2, 3, 4, 5, 11, 12] rfl) hK (hD.sub [1, 2, 3, 4, 5, 11, 12] (by decide) rfl) hN rfl rfl) rfl hl.1 rfl (Nat.le_of_ble_eq_true rfl) d_sr_write_43 hS hFc (fun H1 locs hP1 hz1 hk1 hS => ?_)
    obtain ⟨hP, hD⟩ := wc_join (wc := [(c0, .inr (0, [.ref (c1), .ref (c2), .ref (c3)])), (c1, .inl (cI, 9, .inl (aI (fv)))), (c2, .inl (cZ, 9, .inl (aZ (fz)))), (c3, .inr (2, [.ref (c4), .int (iI (fw))])), (c4, .inl (cL, 443, .inr (.inl (aB (rw9))))), (m0, .inr (2, [.ref (m1), .int (iI (fm))])), (m1, .inl (cL, 443, .inr (.inl (aB (row)))))]) (w2 := [(r0, .inr (4, [.ref (c0), .ref (d0), .int (iI (nf))])), (c0, .inr (0, [.ref (c1), .ref (c2), .ref (c3)])), (c1, .inl (cI, 9, .inl (aI (flf fv ((max (gv fv 9) (gv gw 9)) + (1)) k9)))), (c2, .inl (cZ, 9, .inl (aZ (flf fz false k9)))), (c3, .inr (2, [.ref (c4), .int (iI (if k9 = 9 then fm else fw))])), (c4, .inl (cL, 443, .inr (.inl (aB (if k9 = 9 then va_cpy row rw9 0 0 443 else rw9))))), (d0, .inr (0, [.ref (d1), .ref (d2), .ref (d3)])), (d1, .inl (cI, 9, .inl (aI (gw)))), (d2, .inl (cZ, 9, .inl (aZ (gz)))), (d3, .inr (2, [.ref (d4), .int (iI (fx))])), (d4, .inl (cL, 443, .inr (.inl (aB (rx9))))), (m0, .inr (2, [.ref (m1), .int (iI (fm))])), (m1, .inl (cL, 443, .inr (.inl (aB (row)))))]) (wr := [(r0, .inr (4, [.ref (c0), .ref (d0), .int (iI (nf))])), (d0, .inr (0, [.ref (d1), .ref (d2), .ref (d3)])), (d1, .inl (cI, 9, .inl (aI (gw)))), (d2, .inl (cZ, 9, .inl (aZ (gz)))), (d3, .inr (2, [.ref (d4), .int (iI (fx))])), (d4, .inl (cL, 443, .inr (.inl (aB (rx9)))))]) (w1 := [(c0, .inr (0, [.ref (c1), .ref (c2), .ref (c3)])), (c1, .inl (cI, 9, .inl (aI (flf fv ((max (gv fv 9) (gv gw 9)) + (1)) k9)))), (c2, .inl (cZ, 9, .inl (aZ (flf fz false k9)))), (c3, .inr (2, [.ref (c4), .int (iI (if k9 = 9 then fm else fw))])), (c4, .inl (cL, 443, .inr (.inl (aB (if k9 = 9 then va_cpy row rw9 0 0 443 else rw9))))), (m0, .inr (2, [.ref (m1), .int (iI (fm))])), (m1, .inl (cL, 443, .inr (.inl (aB (row)))))]) hP hD [1, 2, 3, 4, 5, 11, 12] [0, 6, 7, 8, 9, 10] [0, 6, 7, 8, 9, 10, 1, 2, 3, 4, 5, 11, 12] rfl rfl (by decide) (by decide) (by decide) rfl hk1 hFc hP1 rfl rfl (by decide)
    generalize H1 = H at hP hS ⊢
    refine lv_iload_n hx hb d_sr_write_46 rfl (lv_at hl 4 rfl) ?_
    refine lv_bipush (v := iI (9)) hx hb d_sr_write_47 (by decide +kernel) ?_
    refine xi_icmp_ne (tgt := 57) hx hb ⟨by omega, by omega⟩ ⟨by omega, by omega⟩ d_sr_write_49 (by decide) (fun u_2 => ?_) (fun u_2 => ?_)
    · skip
      have q_3 : (rx9) = (if nf = 0 ∧ k9 = 9 then va_cpy row rx9 0 0 443 else rx9) := by by_cases h9 : k9 = 9 <;> by_cases h0 : nf = 0 <;> first | omega | (simp [h9, h0]; done) | simp_all
      have q_4 : iI (fx) = iI (if nf = 0 ∧ k9 = 9 then fm else fx) := congrArg iI (by by_cases h9 : k9 = 9 <;> by_cases h0 : nf = 0 <;> first | omega | (simp [h9, h0]; done) | simp_all)
      have q_5 : (gz) = (if nf = 0 then flf gz false k9 else gz) := by first | rw [if_pos (by omega)] | rw [if_neg (by omega)]
      have q_6 : (gw) = (if nf = 0 then flf gw (max (gv fv 9) (gv gw 9) + 1) k9 else gw) := by first | rw [if_pos (by omega)] | rw [if_neg (by omega)]
      have q_7 : (if k9 = 9 then va_cpy row rw9 0 0 443 else rw9) = (if ¬ nf = 0 ∧ k9 = 9 then va_cpy row rw9 0 0 443 else rw9) := by by_cases h9 : k9 = 9 <;> by_cases h0 : nf = 0 <;> first | omega | (simp [h9, h0]; done) | simp_all
      have q_8 : iI (if k9 = 9 then fm else fw) = iI (if ¬ nf = 0 ∧ k9 = 9 then fm else fw) := congrArg iI (by by_cases h9 : k9 = 9 <;> by_cases h0 : nf = 0 <;> first | omega | (simp [h9, h0]; done) | simp_all)
      have q_9 : (flf fz false k9) = (if ¬ nf = 0 then flf fz false k9 else fz) := by first | rw [if_pos (by omega)] | rw [if_neg (by omega)]
      have q_10 : (flf fv ((max (gv fv 9) (gv gw 9)) + (1)) k9) = (if ¬ nf = 0 then flf fv (max (gv fv 9) (gv gw 9) + 1) k9 else fv) := by first | rw [if_pos (by omega)] | rw [if_neg (by omega)]
      have q_11 : iI (nf) = iI (if k9 = 9 then (if nf = 0 then 1 else 0) else nf) := congrArg iI (by by_cases h9 : k9 = 9 <;> by_cases h0 : nf = 0 <;> first | omega | (simp [h9, h0]; done) | simp_all)
      have hP : va_P (dC, dI) vwCl [(r0, .inr (4, [.ref (c0), .ref (d0), .int (iI (if k9 = 9 then (if nf = 0 then 1 else 0) else nf))])), (c0, .inr (0, [.ref (c1), .ref (c2), .ref (c3)])), (c1, .inl (cI, 9, .inl (aI (if ¬ nf = 0 then flf fv (max (gv fv 9) (gv gw 9) + 1) k9 else fv)))), (c2, .inl (cZ, 9, .inl (aZ (if ¬ nf = 0 then flf fz false k9 else fz)))), (c3, .inr (2, [.ref (c4), .int (iI (if ¬ nf = 0 ∧ k9 = 9 then fm else fw))])), (c4, .inl (cL, 443, .inr (.inl (aB (if ¬ nf = 0 ∧ k9 = 9 then va_cpy row rw9 0 0 443 else rw9))))), (d0, .inr (0, [.ref (d1), .ref (d2), .ref (d3)])), (d1, .inl (cI, 9, .inl (aI (if nf = 0 then flf gw (max (gv fv 9) (gv gw 9) + 1) k9 else gw)))), (d2, .inl (cZ, 9, .inl (aZ (if nf = 0 then flf gz false k9 else gz)))), (d3, .inr (2, [.ref (d4), .int (iI (if nf = 0 ∧ k9 = 9 then fm else fx))])), (d4, .inl (cL, 443, .inr (.inl (aB (if nf = 0 ∧ k9 = 9 then va_cpy row rx9 0 0 443 else rx9))))), (m0, .inr (2, [.ref (m1), .int (iI (fm))])), (m1, .inl (cL, 443, .inr (.inl (aB (row)))))] H := P_eq hP (congr (congrArg List.cons (congrArg (fun z9 => ((r0 : Nat), (Sum.inr (4, z9) : va_E))) (show ([.ref (c0), .ref (d0), .int (iI (nf))] : List Value) = [.ref (c0), .ref (d0), .int (iI (if k9 = 9 then (if nf = 0 then 1 else 0) else nf))] from congrArg (List.cons _) (congrArg (List.cons _) (congr (congrArg List.cons (congrArg Value.int q_11)) (rfl)))))) (congrArg (List.cons _) (congr (congrArg List.cons (congrArg (fun z9 => ((c1 : Nat), (Sum.inl (cI, 9, Sum.inl (aI z9)) : va_E))) q_10)) (congr (congrArg List.cons (congrArg (fun z9 => ((c2 : Nat), (Sum.inl (cZ, 9, Sum.inl (aZ z9)) : va_E))) q_9)) (congr (congrArg List.cons (congrArg (fun z9 => ((c3 : Nat), (Sum.inr (2, z9) : va_E))) (show ([.ref (c4), .int (iI (if k9 = 9 then fm else fw))] : List Value) = [.ref (c4), .int (iI (if ¬ nf = 0 ∧ k9 = 9 then fm else fw))] from congrArg (List.cons _) (congr (congrArg List.cons (congrArg Value.int q_8)) (rfl))))) (congr (congrArg List.cons (congrArg (fun z9 => ((c4 : Nat), (Sum.inl (cL, 443, Sum.inr (Sum.inl (aB z9))) : va_E))) q_7)) (congrArg (List.cons _) (congr (congrArg List.cons (congrArg (fun z9 => ((d1 : Nat), (Sum.inl (cI, 9, Sum.inl (aI z9)) : va_E))) q_6)) (congr (congrArg List.cons (congrArg (fun z9 => ((d2 : Nat), (Sum.inl (cZ, 9, Sum.inl (aZ z9)) : va_E))) q_5)) (congr (congrArg List.cons (congrArg (fun z9 => ((d3 : Nat), (Sum.inr (2, z9) : va_E))) (show ([.ref (d4), .int (iI (fx))] : List Value) = [.ref (d4), .int (iI (if nf = 0 ∧ k9 = 9 then fm else fx))] from congrArg (List.cons _) (congr (congrArg List.cons (congrArg Value.int q_4)) (rfl))))) (congr (congrArg List.cons (congrArg (fun z9 => ((d4 : Nat), (Sum.inl (cL, 443, Sum.inr (Sum.inl (aB z9))) : va_E))) q_3)) (congrArg (List.cons _) (congrArg (List.cons _) (rfl))))))))))))))
      exact W.vret hx hb hr (fun t ht hW => ⟨rfl, by rw [ht]; exact hP, hS.F ht⟩) hS.2.2 d_sr_write_57
    · skip
      refine lv_aload_n hx hb d_sr_write_52 rfl (lv_at hl 2 rfl) ?_
      refine lv_iload_n hx hb d_sr_write_53 rfl (lv_at hl 1 rfl) ?_
      refine va_put (D := (dC, dI)) (ci := 4) (v := .int (iI (0))) (ty := .int) (C := "OrganConsole$Store") (T := T_sr) (N := 3) hx hb htb in_sr ty_sr ty_sr_ok nm_sr hown hK hP hD hS 0 rfl rfl 2 (by decide) (htb _ tw_178) (fun _ h9 => h9) rfl (by decide +kernel) rfl rfl (Nat.le_of_ble_eq_true rfl) d_sr_write_54 (fun H locs hP hD hS => ?_)
      have hP : va_P (dC, dI) vwCl [(r0, .inr (4, [.ref (c0), .ref (d0), .int (iI (0))])), (c0, .inr (0, [.ref (c1), .ref (c2), .ref (c3)])), (c1, .inl (cI, 9, .inl (aI (flf fv ((max (gv fv 9) (gv gw 9)) + (1)) k9)))), (c2, .inl (cZ, 9, .inl (aZ (flf fz false k9)))), (c3, .inr (2, [.ref (c4), .int (iI (if k9 = 9 then fm else fw))])), (c4, .inl (cL, 443, .inr (.inl (aB (if k9 = 9 then va_cpy row rw9 0 0 443 else rw9))))), (d0, .inr (0, [.ref (d1), .ref (d2), .ref (d3)])), (d1, .inl (cI, 9, .inl (aI (gw)))), (d2, .inl (cZ, 9, .inl (aZ (gz)))), (d3, .inr (2, [.ref (d4), .int (iI (fx))])), (d4, .inl (cL, 443, .inr (.inl (aB (rx9))))), (m0, .inr (2, [.ref (m1), .int (iI (fm))])), (m1, .inl (cL, 443, .inr (.inl (aB (row)))))] H := hP
      have hD : va_D A [(r0, .inr (4, [.ref (c0), .ref (d0), .int (iI (0))])), (c0, .inr (0, [.ref (c1), .ref (c2), .ref (c3)])), (c1, .inl (cI, 9, .inl (aI (flf fv ((max (gv fv 9) (gv gw 9)) + (1)) k9)))), (c2, .inl (cZ, 9, .inl (aZ (flf fz false k9)))), (c3, .inr (2, [.ref (c4), .int (iI (if k9 = 9 then fm else fw))])), (c4, .inl (cL, 443, .inr (.inl (aB (if k9 = 9 then va_cpy row rw9 0 0 443 else rw9))))), (d0, .inr (0, [.ref (d1), .ref (d2), .ref (d3)])), (d1, .inl (cI, 9, .inl (aI (gw)))), (d2, .inl (cZ, 9, .inl (aZ (gz)))), (d3, .inr (2, [.ref (d4), .int (iI (fx))])), (d4, .inl (cL, 443, .inr (.inl (aB (rx9))))), (m0, .inr (2, [.ref (m1), .int (iI (fm))])), (m1, .inl (cL, 443, .inr (.inl (aB (row)))))] := hD
      have q_12 : (rx9) = (if nf = 0 ∧ k9 = 9 then va_cpy row rx9 0 0 443 else rx9) := by by_cases h9 : k9 = 9 <;> by_cases h0 : nf = 0 <;> first | omega | (simp [h9, h0]; done) | simp_all
      have q_13 : iI (fx) = iI (if nf = 0 ∧ k9 = 9 then fm else fx) := congrArg iI (by by_cases h9 : k9 = 9 <;> by_cases h0 : nf = 0 <;> first | omega | (simp [h9, h0]; done) | simp_all)
      have q_14 : (gz) = (if nf = 0 then flf gz false k9 else gz) := by first | rw [if_pos (by omega)] | rw [if_neg (by omega)]
      have q_15 : (gw) = (if nf = 0 then flf gw (max (gv fv 9) (gv gw 9) + 1) k9 else gw) := by first | rw [if_pos (by omega)] | rw [if_neg (by omega)]
      have q_16 : (if k9 = 9 then va_cpy row rw9 0 0 443 else rw9) = (if ¬ nf = 0 ∧ k9 = 9 then va_cpy row rw9 0 0 443 else rw9) := by by_cases h9 : k9 = 9 <;> by_cases h0 : nf = 0 <;> first | omega | (simp [h9, h0]; done) | simp_all
      have q_17 : iI (if k9 = 9 then fm else fw) = iI (if ¬ nf = 0 ∧ k9 = 9 then fm else fw) := congrArg iI (by by_cases h9 : k9 = 9 <;> by_cases h0 : nf = 0 <;> first | omega | (simp [h9, h0]; done) | simp_all)
      have q_18 : (flf fz false k9) = (if ¬ nf = 0 then flf fz false k9 else fz) := by first | rw [if_pos (by omega)] | rw [if_neg (by omega)]
      have q_19 : (flf fv ((max (gv fv 9) (gv gw 9)) + (1)) k9) = (if ¬ nf = 0 then flf fv (max (gv fv 9) (gv gw 9) + 1) k9 else fv) := by first | rw [if_pos (by omega)] | rw [if_neg (by omega)]
      have q_20 : iI (0) = iI (if k9 = 9 then (if nf = 0 then 1 else 0) else nf) := congrArg iI (by by_cases h9 : k9 = 9 <;> by_cases h0 : nf = 0 <;> first | omega | (simp [h9, h0]; done) | simp_all)
      have hP : va_P (dC, dI) vwCl [(r0, .inr (4, [.ref (c0), .ref (d0), .int (iI (if k9 = 9 then (if nf = 0 then 1 else 0) else nf))])), (c0, .inr (0, [.ref (c1), .ref (c2), .ref (c3)])), (c1, .inl (cI, 9, .inl (aI (if ¬ nf = 0 then flf fv (max (gv fv 9) (gv gw 9) + 1) k9 else fv)))), (c2, .inl (cZ, 9, .inl (aZ (if ¬ nf = 0 then flf fz false k9 else fz)))), (c3, .inr (2, [.ref (c4), .int (iI (if ¬ nf = 0 ∧ k9 = 9 then fm else fw))])), (c4, .inl (cL, 443, .inr (.inl (aB (if ¬ nf = 0 ∧ k9 = 9 then va_cpy row rw9 0 0 443 else rw9))))), (d0, .inr (0, [.ref (d1), .ref (d2), .ref (d3)])), (d1, .inl (cI, 9, .inl (aI (if nf = 0 then flf gw (max (gv fv 9) (gv gw 9) + 1) k9 else gw)))), (d2, .inl (cZ, 9, .inl (aZ (if nf = 0 then flf gz false k9 else gz)))), (d3, .inr (2, [.ref (d4), .int (iI (if nf = 0 ∧ k9 = 9 then fm else fx))])), (d4, .inl (cL, 443, .inr (.inl (aB (if nf = 0 ∧ k9 = 9 then va_cpy row rx9 0 0 443 else rx9))))), (m0, .inr (2, [.ref (m1), .int (iI (fm))])), (m1, .inl (cL, 443, .inr (.inl (aB (row)))))] H := P_eq hP (congr (congrArg List.cons (congrArg (fun z9 => ((r0 : Nat), (Sum.inr (4, z9) : va_E))) (show ([.ref (c0), .ref (d0), .int (iI (0))] : List Value) = [.ref (c0), .ref (d0), .int (iI (if k9 = 9 then (if nf = 0 then 1 else 0) else nf))] from congrArg (List.cons _) (congrArg (List.cons _) (congr (congrArg List.cons (congrArg Value.int q_20)) (rfl)))))) (congrArg (List.cons _) (congr (congrArg List.cons (congrArg (fun z9 => ((c1 : Nat), (Sum.inl (cI, 9, Sum.inl (aI z9)) : va_E))) q_19)) (congr (congrArg List.cons (congrArg (fun z9 => ((c2 : Nat), (Sum.inl (cZ, 9, Sum.inl (aZ z9)) : va_E))) q_18)) (congr (congrArg List.cons (congrArg (fun z9 => ((c3 : Nat), (Sum.inr (2, z9) : va_E))) (show ([.ref (c4), .int (iI (if k9 = 9 then fm else fw))] : List Value) = [.ref (c4), .int (iI (if ¬ nf = 0 ∧ k9 = 9 then fm else fw))] from congrArg (List.cons _) (congr (congrArg List.cons (congrArg Value.int q_17)) (rfl))))) (congr (congrArg List.cons (congrArg (fun z9 => ((c4 : Nat), (Sum.inl (cL, 443, Sum.inr (Sum.inl (aB z9))) : va_E))) q_16)) (congrArg (List.cons _) (congr (congrArg List.cons (congrArg (fun z9 => ((d1 : Nat), (Sum.inl (cI, 9, Sum.inl (aI z9)) : va_E))) q_15)) (congr (congrArg List.cons (congrArg (fun z9 => ((d2 : Nat), (Sum.inl (cZ, 9, Sum.inl (aZ z9)) : va_E))) q_14)) (congr (congrArg List.cons (congrArg (fun z9 => ((d3 : Nat), (Sum.inr (2, z9) : va_E))) (show ([.ref (d4), .int (iI (fx))] : List Value) = [.ref (d4), .int (iI (if nf = 0 ∧ k9 = 9 then fm else fx))] from congrArg (List.cons _) (congr (congrArg List.cons (congrArg Value.int q_13)) (rfl))))) (congr (congrArg List.cons (congrArg (fun z9 => ((d4 : Nat), (Sum.inl (cL, 443, Sum.inr (Sum.inl (aB z9))) : va_E))) q_12)) (congrArg (List.cons _) (congrArg (List.cons _) (rfl))))))))))))))
      exact W.vret hx hb hr (fun t ht hW => ⟨rfl, by rw [ht]; exact hP, hS.F ht⟩) hS.2.2 d_sr_write_57
  · skip
    refine lv_iconst (v := iI (1)) hx hb d_sr_write_7 rfl ?_
    refine lv_goto (tgt := 12) hx hb d_sr_write_8 (by decide) ?_
    refine lv_istore_n hx hb d_sr_write_12 rfl hl (by decide) rfl (fun ls hl => ?_)
    have hl : lv_has ls 5 [(3, .int (iI (1))), (0, .ref (r0)), (1, .ref (m0)), (2, .int (iI (z)))] := hl
    have hg1 := gv_in hv 9
    have hg2 := gv_in hgw 9
    refine lv_aload_n hx hb d_sr_write_13 rfl (lv_at hl 1 rfl) ?_
    refine va_get (D := (dC, dI)) (ci := 4) (v := .ref (c0)) (C := "OrganConsole$Store") (T := T_sr) (N := 3) hx hb htb in_sr hown hK hP 0 rfl rfl 0 (by decide) (htb _ tw_176) (fun _ h9 => h9) rfl d_sr_write_14 ?_
    refine pcV hx hb hml hown htb (c_cp_greatestVersion l dC dI cI cL cZ c0 c1 c2 c3 fv fz hv) tw_671 tw_672 tw_673 tw_39 tw_674 0 (by decide +kernel) rfl rfl ⟨Nat.le_of_ble_eq_true rfl, Nat.le_of_ble_eq_true rfl⟩ ⟨Nat.zero_le _, Nat.zero_le _⟩ [] (PW_V (q0 := 1) (ci := 0) (ws := [(c0, .inr (0, [.ref (c1), .ref (c2), .ref (c3)])), (c1, .inl (cI, 9, .inl (aI (fv)))), (c2, .inl (cZ, 9, .inl (aZ (fz))))]) hP (hP.sub [1, 2, 3] rfl) hK rfl rfl) rfl hl.1 rfl (Nat.le_of_ble_eq_true rfl) d_sr_write_17 ?_
    refine lv_aload_n hx hb d_sr_write_20 rfl (lv_at hl 1 rfl) ?_
    refine va_get (D := (dC, dI)) (ci := 4) (v := .ref (d0)) (C := "OrganConsole$Store") (T := T_sr) (N := 3) hx hb htb in_sr hown hK hP 0 rfl rfl 1 (by decide) (htb _ tw_177) (fun _ h9 => h9) rfl d_sr_write_21 ?_
    refine pcV hx hb hml hown htb (c_cp_greatestVersion l dC dI cI cL cZ d0 d1 d2 d3 gw gz hgw) tw_671 tw_672 tw_673 tw_39 tw_674 0 (by decide +kernel) rfl rfl ⟨Nat.le_of_ble_eq_true rfl, Nat.le_of_ble_eq_true rfl⟩ ⟨Nat.zero_le _, Nat.zero_le _⟩ [] (PW_V (q0 := 6) (ci := 0) (ws := [(d0, .inr (0, [.ref (d1), .ref (d2), .ref (d3)])), (d1, .inl (cI, 9, .inl (aI (gw)))), (d2, .inl (cZ, 9, .inl (aZ (gz))))]) hP (hP.sub [6, 7, 8] rfl) hK rfl rfl) rfl hl.1 rfl (Nat.le_of_ble_eq_true rfl) d_sr_write_24 ?_
    refine pcS hx hb hml hown htb (c_jm_max l (gv fv 9) (gv gw 9) ⟨by omega, by omega⟩ ⟨by omega, by omega⟩) tw_676 tw_636 tw_49 tw_637 2 (by decide +kernel) rfl rfl ⟨Nat.le_of_ble_eq_true rfl, Nat.le_of_ble_eq_true rfl⟩ ⟨Nat.zero_le _, Nat.zero_le _⟩ [.int (iI (gv fv 9)), .int (iI (gv gw 9))] ⟨fun _ _ _ _ q => q, fun U _ _ => ⟨rfl, trivial⟩⟩ rfl hl.1 rfl (Nat.le_of_ble_eq_true rfl) d_sr_write_27 ?_
    refine lv_iconst (v := iI (1)) hx hb d_sr_write_30 rfl ?_
    refine xi_add hx hb d_sr_write_31 ?_
    refine lv_istore hx hb d_sr_write_32 hl (by decide) rfl (fun ls hl => ?_)
    have hl : lv_has ls 5 [(4, .int (iI ((max (gv fv 9) (gv gw 9)) + (1)))), (3, .int (iI (1))), (0, .ref (r0)), (1, .ref (m0)), (2, .int (iI (z)))] := hl
    refine lv_aload_n hx hb d_sr_write_34 rfl (lv_at hl 2 rfl) ?_
    refine lv_iload_n hx hb d_sr_write_35 rfl (lv_at hl 1 rfl) ?_
    refine pcV hx hb hml hown htb (c_sr_copyAt_1 l dC dI cI cL cZ r0 c0 d0 nf 1 (by omega)) tw_253 tw_254 tw_255 tw_38 tw_256 1 (by decide +kernel) rfl rfl ⟨Nat.le_of_ble_eq_true rfl, Nat.le_of_ble_eq_true rfl⟩ ⟨Nat.zero_le _, Nat.zero_le _⟩ [.int (iI (1))] (PW_V (q0 := 0) (ci := 4) (ws := [(r0, .inr (4, [.ref (c0), .ref (d0), .int (iI (nf))]))]) hP (hP.sub [0] rfl) hK rfl rfl) rfl hl.1 rfl (Nat.le_of_ble_eq_true rfl) d_sr_write_36 ?_
    refine lv_aload_n hx hb d_sr_write_39 rfl (lv_at hl 3 rfl) ?_
    refine lv_iload hx hb d_sr_write_40 (lv_at hl 0 rfl) ?_
    refine lv_iload_n hx hb d_sr_write_42 rfl (lv_at hl 4 rfl) ?_
    have hFc := va_free (wc := [(d0, .inr (0, [.ref (d1), .ref (d2), .ref (d3)])), (d1, .inl (cI, 9, .inl (aI (gw)))), (d2, .inl (cZ, 9, .inl (aZ (gz)))), (d3, .inr (2, [.ref (d4), .int (iI (fx))])), (d4, .inl (cL, 443, .inr (.inl (aB (rx9))))), (m0, .inr (2, [.ref (m1), .int (iI (fm))])), (m1, .inl (cL, 443, .inr (.inl (aB (row)))))]) hD hS hA [6, 7, 8, 9, 10, 11, 12] rfl
    refine wcV hx hb hml hown htb (c_cp_writePages l dC dI cI cL cZ s.heap.size d0 d1 d2 d3 d4 gw gz rx9 fx m0 m1 row fm ((max (gv fv 9) (gv gw 9)) + (1)) k9  _ (by omega) (by omega)) tw_677 tw_678 tw_679 tw_39 tw_680 3 (by decide +kernel) rfl rfl ⟨Nat.le_of_ble_eq_true rfl, Nat.le_of_ble_eq_true rfl⟩ ⟨Nat.zero_le _, Nat.zero_le _⟩ [.ref (m0), .int (iI ((max (gv fv 9) (gv gw 9)) + (1))), .int (iI (z))] (PS_V (q0 := 6) (ci := 0) (ws := [(d0, .inr (0, [.ref (d1), .ref (d2), .ref (d3)])), (d1, .inl (cI, 9, .inl (aI (gw)))), (d2, .inl (cZ, 9, .inl (aZ (gz)))), (d3, .inr (2, [.ref (d4), .int (iI (fx))])), (d4, .inl (cL, 443, .inr (.inl (aB (rx9))))), (m0, .inr (2, [.ref (m1), .int (iI (fm))])), (m1, .inl (cL, 443, .inr (.inl (aB (row)))))]) hP (hP.sub [6, 7, 8, 9, 10, 11, 12] rfl) hK (hD.sub [6, 7, 8, 9, 10, 11, 12] (by decide) rfl) hN rfl rfl) rfl hl.1 rfl (Nat.le_of_ble_eq_true rfl) d_sr_write_43 hS hFc (fun H1 locs hP1 hz1 hk1 hS => ?_)
    obtain ⟨hP, hD⟩ := wc_join (wc := [(d0, .inr (0, [.ref (d1), .ref (d2), .ref (d3)])), (d1, .inl (cI, 9, .inl (aI (gw)))), (d2, .inl (cZ, 9, .inl (aZ (gz)))), (d3, .inr (2, [.ref (d4), .int (iI (fx))])), (d4, .inl (cL, 443, .inr (.inl (aB (rx9))))), (m0, .inr (2, [.ref (m1), .int (iI (fm))])), (m1, .inl (cL, 443, .inr (.inl (aB (row)))))]) (w2 := [(r0, .inr (4, [.ref (c0), .ref (d0), .int (iI (nf))])), (c0, .inr (0, [.ref (c1), .ref (c2), .ref (c3)])), (c1, .inl (cI, 9, .inl (aI (fv)))), (c2, .inl (cZ, 9, .inl (aZ (fz)))), (c3, .inr (2, [.ref (c4), .int (iI (fw))])), (c4, .inl (cL, 443, .inr (.inl (aB (rw9))))), (d0, .inr (0, [.ref (d1), .ref (d2), .ref (d3)])), (d1, .inl (cI, 9, .inl (aI (flf gw ((max (gv fv 9) (gv gw 9)) + (1)) k9)))), (d2, .inl (cZ, 9, .inl (aZ (flf gz false k9)))), (d3, .inr (2, [.ref (d4), .int (iI (if k9 = 9 then fm else fx))])), (d4, .inl (cL, 443, .inr (.inl (aB (if k9 = 9 then va_cpy row rx9 0 0 443 else rx9))))), (m0, .inr (2, [.ref (m1), .int (iI (fm))])), (m1, .inl (cL, 443, .inr (.inl (aB (row)))))]) (wr := [(r0, .inr (4, [.ref (c0), .ref (d0), .int (iI (nf))])), (c0, .inr (0, [.ref (c1), .ref (c2), .ref (c3)])), (c1, .inl (cI, 9, .inl (aI (fv)))), (c2, .inl (cZ, 9, .inl (aZ (fz)))), (c3, .inr (2, [.ref (c4), .int (iI (fw))])), (c4, .inl (cL, 443, .inr (.inl (aB (rw9)))))]) (w1 := [(d0, .inr (0, [.ref (d1), .ref (d2), .ref (d3)])), (d1, .inl (cI, 9, .inl (aI (flf gw ((max (gv fv 9) (gv gw 9)) + (1)) k9)))), (d2, .inl (cZ, 9, .inl (aZ (flf gz false k9)))), (d3, .inr (2, [.ref (d4), .int (iI (if k9 = 9 then fm else fx))])), (d4, .inl (cL, 443, .inr (.inl (aB (if k9 = 9 then va_cpy row rx9 0 0 443 else rx9))))), (m0, .inr (2, [.ref (m1), .int (iI (fm))])), (m1, .inl (cL, 443, .inr (.inl (aB (row)))))]) hP hD [6, 7, 8, 9, 10, 11, 12] [0, 1, 2, 3, 4, 5] [0, 1, 2, 3, 4, 5, 6, 7, 8, 9, 10, 11, 12] rfl rfl (by decide) (by decide) (by decide) rfl hk1 hFc hP1 rfl rfl (by decide)
    generalize H1 = H at hP hS ⊢
    refine lv_iload_n hx hb d_sr_write_46 rfl (lv_at hl 4 rfl) ?_
    refine lv_bipush (v := iI (9)) hx hb d_sr_write_47 (by decide +kernel) ?_
    refine xi_icmp_ne (tgt := 57) hx hb ⟨by omega, by omega⟩ ⟨by omega, by omega⟩ d_sr_write_49 (by decide) (fun u_21 => ?_) (fun u_21 => ?_)
    · skip
      have q_22 : (if k9 = 9 then va_cpy row rx9 0 0 443 else rx9) = (if nf = 0 ∧ k9 = 9 then va_cpy row rx9 0 0 443 else rx9) := by by_cases h9 : k9 = 9 <;> by_cases h0 : nf = 0 <;> first | omega | (simp [h9, h0]; done) | simp_all
      have q_23 : iI (if k9 = 9 then fm else fx) = iI (if nf = 0 ∧ k9 = 9 then fm else fx) := congrArg iI (by by_cases h9 : k9 = 9 <;> by_cases h0 : nf = 0 <;> first | omega | (simp [h9, h0]; done) | simp_all)
      have q_24 : (flf gz false k9) = (if nf = 0 then flf gz false k9 else gz) := by first | rw [if_pos (by omega)] | rw [if_neg (by omega)]
      have q_25 : (flf gw ((max (gv fv 9) (gv gw 9)) + (1)) k9) = (if nf = 0 then flf gw (max (gv fv 9) (gv gw 9) + 1) k9 else gw) := by first | rw [if_pos (by omega)] | rw [if_neg (by omega)]
      have q_26 : (rw9) = (if ¬ nf = 0 ∧ k9 = 9 then va_cpy row rw9 0 0 443 else rw9) := by by_cases h9 : k9 = 9 <;> by_cases h0 : nf = 0 <;> first | omega | (simp [h9, h0]; done) | simp_all
      have q_27 : iI (fw) = iI (if ¬ nf = 0 ∧ k9 = 9 then fm else fw) := congrArg iI (by by_cases h9 : k9 = 9 <;> by_cases h0 : nf = 0 <;> first | omega | (simp [h9, h0]; done) | simp_all)
      have q_28 : (fz) = (if ¬ nf = 0 then flf fz false k9 else fz) := by first | rw [if_pos (by omega)] | rw [if_neg (by omega)]
      have q_29 : (fv) = (if ¬ nf = 0 then flf fv (max (gv fv 9) (gv gw 9) + 1) k9 else fv) := by first | rw [if_pos (by omega)] | rw [if_neg (by omega)]
      have q_30 : iI (nf) = iI (if k9 = 9 then (if nf = 0 then 1 else 0) else nf) := congrArg iI (by by_cases h9 : k9 = 9 <;> by_cases h0 : nf = 0 <;> first | omega | (simp [h9, h0]; done) | simp_all)
      have hP : va_P (dC, dI) vwCl [(r0, .inr (4, [.ref (c0), .ref (d0), .int (iI (if k9 = 9 then (if nf = 0 then 1 else 0) else nf))])), (c0, .inr (0, [.ref (c1), .ref (c2), .ref (c3)])), (c1, .inl (cI, 9, .inl (aI (if ¬ nf = 0 then flf fv (max (gv fv 9) (gv gw 9) + 1) k9 else fv)))), (c2, .inl (cZ, 9, .inl (aZ (if ¬ nf = 0 then flf fz false k9 else fz)))), (c3, .inr (2, [.ref (c4), .int (iI (if ¬ nf = 0 ∧ k9 = 9 then fm else fw))])), (c4, .inl (cL, 443, .inr (.inl (aB (if ¬ nf = 0 ∧ k9 = 9 then va_cpy row rw9 0 0 443 else rw9))))), (d0, .inr (0, [.ref (d1), .ref (d2), .ref (d3)])), (d1, .inl (cI, 9, .inl (aI (if nf = 0 then flf gw (max (gv fv 9) (gv gw 9) + 1) k9 else gw)))), (d2, .inl (cZ, 9, .inl (aZ (if nf = 0 then flf gz false k9 else gz)))), (d3, .inr (2, [.ref (d4), .int (iI (if nf = 0 ∧ k9 = 9 then fm else fx))])), (d4, .inl (cL, 443, .inr (.inl (aB (if nf = 0 ∧ k9 = 9 then va_cpy row rx9 0 0 443 else rx9))))), (m0, .inr (2, [.ref (m1), .int (iI (fm))])), (m1, .inl (cL, 443, .inr (.inl (aB (row)))))] H := P_eq hP (congr (congrArg List.cons (congrArg (fun z9 => ((r0 : Nat), (Sum.inr (4, z9) : va_E))) (show ([.ref (c0), .ref (d0), .int (iI (nf))] : List Value) = [.ref (c0), .ref (d0), .int (iI (if k9 = 9 then (if nf = 0 then 1 else 0) else nf))] from congrArg (List.cons _) (congrArg (List.cons _) (congr (congrArg List.cons (congrArg Value.int q_30)) (rfl)))))) (congrArg (List.cons _) (congr (congrArg List.cons (congrArg (fun z9 => ((c1 : Nat), (Sum.inl (cI, 9, Sum.inl (aI z9)) : va_E))) q_29)) (congr (congrArg List.cons (congrArg (fun z9 => ((c2 : Nat), (Sum.inl (cZ, 9, Sum.inl (aZ z9)) : va_E))) q_28)) (congr (congrArg List.cons (congrArg (fun z9 => ((c3 : Nat), (Sum.inr (2, z9) : va_E))) (show ([.ref (c4), .int (iI (fw))] : List Value) = [.ref (c4), .int (iI (if ¬ nf = 0 ∧ k9 = 9 then fm else fw))] from congrArg (List.cons _) (congr (congrArg List.cons (congrArg Value.int q_27)) (rfl))))) (congr (congrArg List.cons (congrArg (fun z9 => ((c4 : Nat), (Sum.inl (cL, 443, Sum.inr (Sum.inl (aB z9))) : va_E))) q_26)) (congrArg (List.cons _) (congr (congrArg List.cons (congrArg (fun z9 => ((d1 : Nat), (Sum.inl (cI, 9, Sum.inl (aI z9)) : va_E))) q_25)) (congr (congrArg List.cons (congrArg (fun z9 => ((d2 : Nat), (Sum.inl (cZ, 9, Sum.inl (aZ z9)) : va_E))) q_24)) (congr (congrArg List.cons (congrArg (fun z9 => ((d3 : Nat), (Sum.inr (2, z9) : va_E))) (show ([.ref (d4), .int (iI (if k9 = 9 then fm else fx))] : List Value) = [.ref (d4), .int (iI (if nf = 0 ∧ k9 = 9 then fm else fx))] from congrArg (List.cons _) (congr (congrArg List.cons (congrArg Value.int q_23)) (rfl))))) (congr (congrArg List.cons (congrArg (fun z9 => ((d4 : Nat), (Sum.inl (cL, 443, Sum.inr (Sum.inl (aB z9))) : va_E))) q_22)) (congrArg (List.cons _) (congrArg (List.cons _) (rfl))))))))))))))
      exact W.vret hx hb hr (fun t ht hW => ⟨rfl, by rw [ht]; exact hP, hS.F ht⟩) hS.2.2 d_sr_write_57
    · skip
      refine lv_aload_n hx hb d_sr_write_52 rfl (lv_at hl 2 rfl) ?_
      refine lv_iload_n hx hb d_sr_write_53 rfl (lv_at hl 1 rfl) ?_
      refine va_put (D := (dC, dI)) (ci := 4) (v := .int (iI (1))) (ty := .int) (C := "OrganConsole$Store") (T := T_sr) (N := 3) hx hb htb in_sr ty_sr ty_sr_ok nm_sr hown hK hP hD hS 0 rfl rfl 2 (by decide) (htb _ tw_178) (fun _ h9 => h9) rfl (by decide +kernel) rfl rfl (Nat.le_of_ble_eq_true rfl) d_sr_write_54 (fun H locs hP hD hS => ?_)
      have hP : va_P (dC, dI) vwCl [(r0, .inr (4, [.ref (c0), .ref (d0), .int (iI (1))])), (c0, .inr (0, [.ref (c1), .ref (c2), .ref (c3)])), (c1, .inl (cI, 9, .inl (aI (fv)))), (c2, .inl (cZ, 9, .inl (aZ (fz)))), (c3, .inr (2, [.ref (c4), .int (iI (fw))])), (c4, .inl (cL, 443, .inr (.inl (aB (rw9))))), (d0, .inr (0, [.ref (d1), .ref (d2), .ref (d3)])), (d1, .inl (cI, 9, .inl (aI (flf gw ((max (gv fv 9) (gv gw 9)) + (1)) k9)))), (d2, .inl (cZ, 9, .inl (aZ (flf gz false k9)))), (d3, .inr (2, [.ref (d4), .int (iI (if k9 = 9 then fm else fx))])), (d4, .inl (cL, 443, .inr (.inl (aB (if k9 = 9 then va_cpy row rx9 0 0 443 else rx9))))), (m0, .inr (2, [.ref (m1), .int (iI (fm))])), (m1, .inl (cL, 443, .inr (.inl (aB (row)))))] H := hP
      have hD : va_D A [(r0, .inr (4, [.ref (c0), .ref (d0), .int (iI (1))])), (c0, .inr (0, [.ref (c1), .ref (c2), .ref (c3)])), (c1, .inl (cI, 9, .inl (aI (fv)))), (c2, .inl (cZ, 9, .inl (aZ (fz)))), (c3, .inr (2, [.ref (c4), .int (iI (fw))])), (c4, .inl (cL, 443, .inr (.inl (aB (rw9))))), (d0, .inr (0, [.ref (d1), .ref (d2), .ref (d3)])), (d1, .inl (cI, 9, .inl (aI (flf gw ((max (gv fv 9) (gv gw 9)) + (1)) k9)))), (d2, .inl (cZ, 9, .inl (aZ (flf gz false k9)))), (d3, .inr (2, [.ref (d4), .int (iI (if k9 = 9 then fm else fx))])), (d4, .inl (cL, 443, .inr (.inl (aB (if k9 = 9 then va_cpy row rx9 0 0 443 else rx9))))), (m0, .inr (2, [.ref (m1), .int (iI (fm))])), (m1, .inl (cL, 443, .inr (.inl (aB (row)))))] := hD
      have q_31 : (if k9 = 9 then va_cpy row rx9 0 0 443 else rx9) = (if nf = 0 ∧ k9 = 9 then va_cpy row rx9 0 0 443 else rx9) := by by_cases h9 : k9 = 9 <;> by_cases h0 : nf = 0 <;> first | omega | (simp [h9, h0]; done) | simp_all
      have q_32 : iI (if k9 = 9 then fm else fx) = iI (if nf = 0 ∧ k9 = 9 then fm else fx) := congrArg iI (by by_cases h9 : k9 = 9 <;> by_cases h0 : nf = 0 <;> first | omega | (simp [h9, h0]; done) | simp_all)
      have q_33 : (flf gz false k9) = (if nf = 0 then flf gz false k9 else gz) := by first | rw [if_pos (by omega)] | rw [if_neg (by omega)]
      have q_34 : (flf gw ((max (gv fv 9) (gv gw 9)) + (1)) k9) = (if nf = 0 then flf gw (max (gv fv 9) (gv gw 9) + 1) k9 else gw) := by first | rw [if_pos (by omega)] | rw [if_neg (by omega)]
      have q_35 : (rw9) = (if ¬ nf = 0 ∧ k9 = 9 then va_cpy row rw9 0 0 443 else rw9) := by by_cases h9 : k9 = 9 <;> by_cases h0 : nf = 0 <;> first | omega | (simp [h9, h0]; done) | simp_all
      have q_36 : iI (fw) = iI (if ¬ nf = 0 ∧ k9 = 9 then fm else fw) := congrArg iI (by by_cases h9 : k9 = 9 <;> by_cases h0 : nf = 0 <;> first | omega | (simp [h9, h0]; done) | simp_all)
      have q_37 : (fz) = (if ¬ nf = 0 then flf fz false k9 else fz) := by first | rw [if_pos (by omega)] | rw [if_neg (by omega)]
      have q_38 : (fv) = (if ¬ nf = 0 then flf fv (max (gv fv 9) (gv gw 9) + 1) k9 else fv) := by first | rw [if_pos (by omega)] | rw [if_neg (by omega)]
      have q_39 : iI (1) = iI (if k9 = 9 then (if nf = 0 then 1 else 0) else nf) := congrArg iI (by by_cases h9 : k9 = 9 <;> by_cases h0 : nf = 0 <;> first | omega | (simp [h9, h0]; done) | simp_all)
      have hP : va_P (dC, dI) vwCl [(r0, .inr (4, [.ref (c0), .ref (d0), .int (iI (if k9 = 9 then (if nf = 0 then 1 else 0) else nf))])), (c0, .inr (0, [.ref (c1), .ref (c2), .ref (c3)])), (c1, .inl (cI, 9, .inl (aI (if ¬ nf = 0 then flf fv (max (gv fv 9) (gv gw 9) + 1) k9 else fv)))), (c2, .inl (cZ, 9, .inl (aZ (if ¬ nf = 0 then flf fz false k9 else fz)))), (c3, .inr (2, [.ref (c4), .int (iI (if ¬ nf = 0 ∧ k9 = 9 then fm else fw))])), (c4, .inl (cL, 443, .inr (.inl (aB (if ¬ nf = 0 ∧ k9 = 9 then va_cpy row rw9 0 0 443 else rw9))))), (d0, .inr (0, [.ref (d1), .ref (d2), .ref (d3)])), (d1, .inl (cI, 9, .inl (aI (if nf = 0 then flf gw (max (gv fv 9) (gv gw 9) + 1) k9 else gw)))), (d2, .inl (cZ, 9, .inl (aZ (if nf = 0 then flf gz false k9 else gz)))), (d3, .inr (2, [.ref (d4), .int (iI (if nf = 0 ∧ k9 = 9 then fm else fx))])), (d4, .inl (cL, 443, .inr (.inl (aB (if nf = 0 ∧ k9 = 9 then va_cpy row rx9 0 0 443 else rx9))))), (m0, .inr (2, [.ref (m1), .int (iI (fm))])), (m1, .inl (cL, 443, .inr (.inl (aB (row)))))] H := P_eq hP (congr (congrArg List.cons (congrArg (fun z9 => ((r0 : Nat), (Sum.inr (4, z9) : va_E))) (show ([.ref (c0), .ref (d0), .int (iI (1))] : List Value) = [.ref (c0), .ref (d0), .int (iI (if k9 = 9 then (if nf = 0 then 1 else 0) else nf))] from congrArg (List.cons _) (congrArg (List.cons _) (congr (congrArg List.cons (congrArg Value.int q_39)) (rfl)))))) (congrArg (List.cons _) (congr (congrArg List.cons (congrArg (fun z9 => ((c1 : Nat), (Sum.inl (cI, 9, Sum.inl (aI z9)) : va_E))) q_38)) (congr (congrArg List.cons (congrArg (fun z9 => ((c2 : Nat), (Sum.inl (cZ, 9, Sum.inl (aZ z9)) : va_E))) q_37)) (congr (congrArg List.cons (congrArg (fun z9 => ((c3 : Nat), (Sum.inr (2, z9) : va_E))) (show ([.ref (c4), .int (iI (fw))] : List Value) = [.ref (c4), .int (iI (if ¬ nf = 0 ∧ k9 = 9 then fm else fw))] from congrArg (List.cons _) (congr (congrArg List.cons (congrArg Value.int q_36)) (rfl))))) (congr (congrArg List.cons (congrArg (fun z9 => ((c4 : Nat), (Sum.inl (cL, 443, Sum.inr (Sum.inl (aB z9))) : va_E))) q_35)) (congrArg (List.cons _) (congr (congrArg List.cons (congrArg (fun z9 => ((d1 : Nat), (Sum.inl (cI, 9, Sum.inl (aI z9)) : va_E))) q_34)) (congr (congrArg List.cons (congrArg (fun z9 => ((d2 : Nat), (Sum.inl (cZ, 9, Sum.inl (aZ z9)) : va_E))) q_33)) (congr (congrArg List.cons (congrArg (fun z9 => ((d3 : Nat), (Sum.inr (2, z9) : va_E))) (show ([.ref (d4), .int (iI (if k9 = 9 then fm else fx))] : List Value) = [.ref (d4), .int (iI (if nf = 0 ∧ k9 = 9 then fm else fx))] from congrArg (List.cons _) (congr (congrArg List.cons (congrArg Value.int q_32)) (rfl))))) (congr (congrArg List.cons (congrArg (fun z9 => ((d4 : Nat), (Sum.inl (cL, 443, Sum.inr (Sum.inl (aB z9))) : va_E))) q_31)) (congrArg (List.cons _) (congrArg (List.cons _) (rfl))))))))))))))
      exact W.vret hx hb hr (fun t ht hW => ⟨rfl, by rw [ht]; exact hP, hS.F ht⟩) hS.2.2 d_sr_write_57

set_option maxHeartbeats 200000 in
set_option maxRecDepth 100000 in
theorem c_sr_readInto (l : Launch) (dC : Nat → ClassId) (dI : Nat → Nat → Nat) (cI cL cZ : ClassId) (sz : Nat) (r0 : Nat) (nf : Int) (c0 c1 c2 c3 c4 : Nat) (fv : Nat → Int) (fz : Nat → Bool) (rw9 : Nat → Nat → Bool) (fw : Int) (d0 d1 d2 d3 d4 : Nat) (gw : Nat → Int) (gz : Nat → Bool) (rx9 : Nat → Nat → Bool) (fx : Int) (hnf : nf = -1 ∨ nf = 0 ∨ nf = 1) (hv : ∀ p, 0 ≤ fv p ∧ fv p ≤ 100000) (hgw : ∀ p, 0 ≤ gw p ∧ gw p ≤ 100000) (m0 m1 : Nat) (row : Nat → Nat → Bool) (fm : Int) : Met l y_sr_readInto (Cond.code y_sr_readInto prog_6_method_5_code 2 none :: TB) ({ frames := 2, cells := 0, slots := 0, locals := 69 }) (va_Pc [.ref (r0), .ref (m0)] (PS dC dI [(r0, .inr (4, [.ref (c0), .ref (d0), .int (iI (nf))])), (c0, .inr (0, [.ref (c1), .ref (c2), .ref (c3)])), (c1, .inl (cI, 9, .inl (aI (fv)))), (c2, .inl (cZ, 9, .inl (aZ (fz)))), (c3, .inr (2, [.ref (c4), .int (iI (fw))])), (c4, .inl (cL, 443, .inr (.inl (aB (rw9))))), (d0, .inr (0, [.ref (d1), .ref (d2), .ref (d3)])), (d1, .inl (cI, 9, .inl (aI (gw)))), (d2, .inl (cZ, 9, .inl (aZ (gz)))), (d3, .inr (2, [.ref (d4), .int (iI (fx))])), (d4, .inl (cL, 443, .inr (.inl (aB (rx9))))), (m0, .inr (2, [.ref (m1), .int (iI (fm))])), (m1, .inl (cL, 443, .inr (.inl (aB (row)))))] [(cI, .int), (cL, .long), (cZ, .boolean)] sz)) (QW dC dI none [(r0, .inr (4, [.ref (c0), .ref (d0), .int (iI (nw (wv fv fz) (wv gw gz)))])), (c0, .inr (0, [.ref (c1), .ref (c2), .ref (c3)])), (c1, .inl (cI, 9, .inl (aI (fv)))), (c2, .inl (cZ, 9, .inl (aZ (fz)))), (c3, .inr (2, [.ref (c4), .int (iI (fw))])), (c4, .inl (cL, 443, .inr (.inl (aB (rw9))))), (d0, .inr (0, [.ref (d1), .ref (d2), .ref (d3)])), (d1, .inl (cI, 9, .inl (aI (gw)))), (d2, .inl (cZ, 9, .inl (aZ (gz)))), (d3, .inr (2, [.ref (d4), .int (iI (fx))])), (d4, .inl (cL, 443, .inr (.inl (aB (rx9))))), (m0, .inr (2, [.ref (m1), .int (iI (if nw (wv fv fz) (wv gw gz) = -1 then 0 else if nw (wv fv fz) (wv gw gz) = 0 then fw else fx))])), (m1, .inl (cL, 443, .inr (.inl (aB (if nw (wv fv fz) (wv gw gz) = -1 then flf row (fun _ => false) 443 else if nw (wv fv fz) (wv gw gz) = 0 then va_cpy rw9 row 0 0 443 else va_cpy rx9 row 0 0 443)))))] (va_A [(r0, .inr (4, [.ref (c0), .ref (d0), .int (iI (nf))])), (c0, .inr (0, [.ref (c1), .ref (c2), .ref (c3)])), (c1, .inl (cI, 9, .inl (aI (fv)))), (c2, .inl (cZ, 9, .inl (aZ (fz)))), (c3, .inr (2, [.ref (c4), .int (iI (fw))])), (c4, .inl (cL, 443, .inr (.inl (aB (rw9))))), (d0, .inr (0, [.ref (d1), .ref (d2), .ref (d3)])), (d1, .inl (cI, 9, .inl (aI (gw)))), (d2, .inl (cZ, 9, .inl (aZ (gz)))), (d3, .inr (2, [.ref (d4), .int (iI (fx))])), (d4, .inl (cL, 443, .inr (.inl (aB (rx9))))), (m0, .inr (2, [.ref (m1), .int (iI (fm))])), (m1, .inl (cL, 443, .inr (.inl (aB (row)))))] sz)) 0 0 (va_A [(r0, .inr (4, [.ref (c0), .ref (d0), .int (iI (nf))])), (c0, .inr (0, [.ref (c1), .ref (c2), .ref (c3)])), (c1, .inl (cI, 9, .inl (aI (fv)))), (c2, .inl (cZ, 9, .inl (aZ (fz)))), (c3, .inr (2, [.ref (c4), .int (iI (fw))])), (c4, .inl (cL, 443, .inr (.inl (aB (rw9))))), (d0, .inr (0, [.ref (d1), .ref (d2), .ref (d3)])), (d1, .inl (cI, 9, .inl (aI (gw)))), (d2, .inl (cZ, 9, .inl (aZ (gz)))), (d3, .inr (2, [.ref (d4), .int (iI (fx))])), (d4, .inl (cL, 443, .inr (.inl (aB (rx9))))), (m0, .inr (2, [.ref (m1), .int (iI (fm))])), (m1, .inl (cL, 443, .inr (.inl (aB (row)))))] sz) := by
  refine Met.ofW (cc := prog_6_method_5_code) (maxL := 2) (ret := none) (by decide) rfl ?_
  intro p e s m args below meth c s₁ B hml hv
  obtain ⟨ha, hsz, hP, hK, hD0, hN⟩ := hv
  have hx := B.exec
  have hb := B.bytes
  have hr := B.returns
  have htb : ∀ w ∈ TB, w.before args s = true := fun w h => atoms_spec (ws := Cond.code y_sr_readInto prog_6_method_5_code 2 none :: TB) B.pre w (List.mem_cons_of_mem _ h)
  have hown : s.vm.findClass "OrganConsole$Store" = some m.cls := findClass_of_methodNamed B.named
  have hlocks := B.notSynchronized
  subst hsz
  have hD := hD0.self (sz := s.heap.size)
  generalize hAe : va_A [(r0, .inr (4, [.ref (c0), .ref (d0), .int (iI (nf))])), (c0, .inr (0, [.ref (c1), .ref (c2), .ref (c3)])), (c1, .inl (cI, 9, .inl (aI (fv)))), (c2, .inl (cZ, 9, .inl (aZ (fz)))), (c3, .inr (2, [.ref (c4), .int (iI (fw))])), (c4, .inl (cL, 443, .inr (.inl (aB (rw9))))), (d0, .inr (0, [.ref (d1), .ref (d2), .ref (d3)])), (d1, .inl (cI, 9, .inl (aI (gw)))), (d2, .inl (cZ, 9, .inl (aZ (gz)))), (d3, .inr (2, [.ref (d4), .int (iI (fx))])), (d4, .inl (cL, 443, .inr (.inl (aB (rx9))))), (m0, .inr (2, [.ref (m1), .int (iI (fm))])), (m1, .inl (cL, 443, .inr (.inl (aB (row)))))] s.heap.size = A at hD ⊢
  have hA : ∀ q : Nat, s.heap.size ≤ q → A q := fun q h => by rw [← hAe]; exact Or.inr h
  have hS : va_S A s.heap s.heap [] := va_S.rf
  have hl := lv_entry ([.ref (r0), .ref (m0)]) (n := 2) (Nat.le_of_ble_eq_true rfl)
  refine W.eq (g2 := F0 m 0 _ []) (by rw [ha]; exact lg_entry_eq m ([.ref (r0), .ref (m0)]) 2) ?_
  generalize (lg_sl ([.ref (r0), .ref (m0)]) ++ List.replicate (2 - (lg_sl ([.ref (r0), .ref (m0)])).length) Slot.unset).toArray = ls at hl ⊢
  have hl : lv_has ls 2 [(0, .ref (r0)), (1, .ref (m0))] := hl
  refine lv_aload_n hx hb d_sr_readInto_0 rfl (lv_at hl 0 rfl) ?_
  refine lv_aload_n hx hb d_sr_readInto_1 rfl (lv_at hl 0 rfl) ?_
  refine pcV hx hb hml hown htb (c_sr_newestWhole l dC dI cI cL cZ r0 nf c0 c1 c2 c3 c4 fv fz rw9 fw d0 d1 d2 d3 d4 gw gz rx9 fx hnf hv hgw) tw_238 tw_240 tw_1 tw_38 tw_241 0 (by decide +kernel) rfl rfl ⟨Nat.le_of_ble_eq_true rfl, Nat.le_of_ble_eq_true rfl⟩ ⟨Nat.zero_le _, Nat.zero_le _⟩ [] (PW_V (q0 := 0) (ci := 4) (ws := [(r0, .inr (4, [.ref (c0), .ref (d0), .int (iI (nf))])), (c0, .inr (0, [.ref (c1), .ref (c2), .ref (c3)])), (c1, .inl (cI, 9, .inl (aI (fv)))), (c2, .inl (cZ, 9, .inl (aZ (fz)))), (c3, .inr (2, [.ref (c4), .int (iI (fw))])), (c4, .inl (cL, 443, .inr (.inl (aB (rw9))))), (d0, .inr (0, [.ref (d1), .ref (d2), .ref (d3)])), (d1, .inl (cI, 9, .inl (aI (gw)))), (d2, .inl (cZ, 9, .inl (aZ (gz)))), (d3, .inr (2, [.ref (d4), .int (iI (fx))])), (d4, .inl (cL, 443, .inr (.inl (aB (rx9)))))]) hP (hP.sub [0, 1, 2, 3, 4, 5, 6, 7, 8, 9, 10] rfl) hK rfl rfl) rfl hl.1 rfl (Nat.le_of_ble_eq_true rfl) d_sr_readInto_2 ?_
  refine va_put (D := (dC, dI)) (ci := 4) (v := .int (iI (nw (wv fv fz) (wv gw gz)))) (ty := .int) (C := "OrganConsole$Store") (T := T_sr) (N := 3) hx hb htb in_sr ty_sr ty_sr_ok nm_sr hown hK hP hD hS 0 rfl rfl 2 (by decide) (htb _ tw_178) (fun _ h9 => h9) rfl (by decide +kernel) rfl rfl (Nat.le_of_ble_eq_true rfl) d_sr_readInto_5 (fun H locs hP hD hS => ?_)
  have hP : va_P (dC, dI) vwCl [(r0, .inr (4, [.ref (c0), .ref (d0), .int (iI (nw (wv fv fz) (wv gw gz)))])), (c0, .inr (0, [.ref (c1), .ref (c2), .ref (c3)])), (c1, .inl (cI, 9, .inl (aI (fv)))), (c2, .inl (cZ, 9, .inl (aZ (fz)))), (c3, .inr (2, [.ref (c4), .int (iI (fw))])), (c4, .inl (cL, 443, .inr (.inl (aB (rw9))))), (d0, .inr (0, [.ref (d1), .ref (d2), .ref (d3)])), (d1, .inl (cI, 9, .inl (aI (gw)))), (d2, .inl (cZ, 9, .inl (aZ (gz)))), (d3, .inr (2, [.ref (d4), .int (iI (fx))])), (d4, .inl (cL, 443, .inr (.inl (aB (rx9))))), (m0, .inr (2, [.ref (m1), .int (iI (fm))])), (m1, .inl (cL, 443, .inr (.inl (aB (row)))))] H := hP
  have hD : va_D A [(r0, .inr (4, [.ref (c0), .ref (d0), .int (iI (nw (wv fv fz) (wv gw gz)))])), (c0, .inr (0, [.ref (c1), .ref (c2), .ref (c3)])), (c1, .inl (cI, 9, .inl (aI (fv)))), (c2, .inl (cZ, 9, .inl (aZ (fz)))), (c3, .inr (2, [.ref (c4), .int (iI (fw))])), (c4, .inl (cL, 443, .inr (.inl (aB (rw9))))), (d0, .inr (0, [.ref (d1), .ref (d2), .ref (d3)])), (d1, .inl (cI, 9, .inl (aI (gw)))), (d2, .inl (cZ, 9, .inl (aZ (gz)))), (d3, .inr (2, [.ref (d4), .int (iI (fx))])), (d4, .inl (cL, 443, .inr (.inl (aB (rx9))))), (m0, .inr (2, [.ref (m1), .int (iI (fm))])), (m1, .inl (cL, 443, .inr (.inl (aB (row)))))] := hD
  have hnw := nw_in (wv fv fz) (wv gw gz)
  refine lv_aload_n hx hb d_sr_readInto_8 rfl (lv_at hl 0 rfl) ?_
  refine va_get (D := (dC, dI)) (ci := 4) (v := .int (iI (nw (wv fv fz) (wv gw gz)))) (C := "OrganConsole$Store") (T := T_sr) (N := 3) hx hb htb in_sr hown hK hP 0 rfl rfl 2 (by decide) (htb _ tw_178) (fun _ h9 => h9) rfl d_sr_readInto_9 ?_
  refine lv_iconst (v := iI (-1)) hx hb d_sr_readInto_12 rfl ?_
  refine xi_icmp_ne (tgt := 23) hx hb ⟨by omega, by omega⟩ ⟨by omega, by omega⟩ d_sr_readInto_13 (by decide) (fun u_1 => ?_) (fun u_1 => ?_)
  · skip
    by_cases u_2 : nw (wv fv fz) (wv gw gz) = 0
    · skip
      refine lv_aload_n hx hb d_sr_readInto_23 rfl (lv_at hl 1 rfl) ?_
      refine lv_aload_n hx hb d_sr_readInto_24 rfl (lv_at hl 0 rfl) ?_
      refine lv_aload_n hx hb d_sr_readInto_25 rfl (lv_at hl 0 rfl) ?_
      refine va_get (D := (dC, dI)) (ci := 4) (v := .int (iI (nw (wv fv fz) (wv gw gz)))) (C := "OrganConsole$Store") (T := T_sr) (N := 3) hx hb htb in_sr hown hK hP 0 rfl rfl 2 (by decide) (htb _ tw_178) (fun _ h9 => h9) rfl d_sr_readInto_26 ?_
      refine pcV hx hb hml hown htb (c_sr_copyAt_0 l dC dI cI cL cZ r0 c0 d0 (nw (wv fv fz) (wv gw gz)) (nw (wv fv fz) (wv gw gz)) (by omega)) tw_253 tw_254 tw_255 tw_38 tw_256 1 (by decide +kernel) rfl rfl ⟨Nat.le_of_ble_eq_true rfl, Nat.le_of_ble_eq_true rfl⟩ ⟨Nat.zero_le _, Nat.zero_le _⟩ [.int (iI (nw (wv fv fz) (wv gw gz)))] (PW_V (q0 := 0) (ci := 4) (ws := [(r0, .inr (4, [.ref (c0), .ref (d0), .int (iI (nw (wv fv fz) (wv gw gz)))]))]) hP (hP.sub [0] rfl) hK rfl rfl) rfl hl.1 rfl (Nat.le_of_ble_eq_true rfl) d_sr_readInto_29 ?_
      refine va_get (D := (dC, dI)) (ci := 0) (v := .ref (c3)) (C := "OrganConsole$Copy") (T := T_cp) (N := 3) hx hb htb in_cp hown hK hP 1 rfl rfl 2 (by decide) (htb _ tw_167) (fun _ h9 => h9) rfl d_sr_readInto_32 ?_
      have hFc := va_free (wc := [(m0, .inr (2, [.ref (m1), .int (iI (fm))])), (m1, .inl (cL, 443, .inr (.inl (aB (row))))), (c3, .inr (2, [.ref (c4), .int (iI (fw))])), (c4, .inl (cL, 443, .inr (.inl (aB (rw9)))))]) hD hS hA [11, 12, 4, 5] rfl
      refine wcV hx hb hml hown htb (c_me_become l dC dI cI cL cZ H.size m0 m1 row fm c3 c4 rw9 fw) tw_257 tw_258 tw_259 tw_37 tw_260 1 (by decide +kernel) rfl rfl ⟨Nat.le_of_ble_eq_true rfl, Nat.le_of_ble_eq_true rfl⟩ ⟨Nat.zero_le _, Nat.zero_le _⟩ [.ref (c3)] (PS_V (q0 := 11) (ci := 2) (ws := [(m0, .inr (2, [.ref (m1), .int (iI (fm))])), (m1, .inl (cL, 443, .inr (.inl (aB (row))))), (c3, .inr (2, [.ref (c4), .int (iI (fw))])), (c4, .inl (cL, 443, .inr (.inl (aB (rw9)))))]) hP (hP.sub [11, 12, 4, 5] rfl) hK (hD.sub [11, 12, 4, 5] (by decide) rfl) hN rfl rfl) rfl hl.1 rfl (Nat.le_of_ble_eq_true rfl) d_sr_readInto_35 hS hFc (fun H1 locs hP1 hz1 hk1 hS => ?_)
      obtain ⟨hP, hD⟩ := wc_join (wc := [(m0, .inr (2, [.ref (m1), .int (iI (fm))])), (m1, .inl (cL, 443, .inr (.inl (aB (row))))), (c3, .inr (2, [.ref (c4), .int (iI (fw))])), (c4, .inl (cL, 443, .inr (.inl (aB (rw9)))))]) (w2 := [(r0, .inr (4, [.ref (c0), .ref (d0), .int (iI (nw (wv fv fz) (wv gw gz)))])), (c0, .inr (0, [.ref (c1), .ref (c2), .ref (c3)])), (c1, .inl (cI, 9, .inl (aI (fv)))), (c2, .inl (cZ, 9, .inl (aZ (fz)))), (c3, .inr (2, [.ref (c4), .int (iI (fw))])), (c4, .inl (cL, 443, .inr (.inl (aB (rw9))))), (d0, .inr (0, [.ref (d1), .ref (d2), .ref (d3)])), (d1, .inl (cI, 9, .inl (aI (gw)))), (d2, .inl (cZ, 9, .inl (aZ (gz)))), (d3, .inr (2, [.ref (d4), .int (iI (fx))])), (d4, .inl (cL, 443, .inr (.inl (aB (rx9))))), (m0, .inr (2, [.ref (m1), .int (iI (fw))])), (m1, .inl (cL, 443, .inr (.inl (aB (va_cpy rw9 row 0 0 443)))))]) (wr := [(r0, .inr (4, [.ref (c0), .ref (d0), .int (iI (nw (wv fv fz) (wv gw gz)))])), (c0, .inr (0, [.ref (c1), .ref (c2), .ref (c3)])), (c1, .inl (cI, 9, .inl (aI (fv)))), (c2, .inl (cZ, 9, .inl (aZ (fz)))), (d0, .inr (0, [.ref (d1), .ref (d2), .ref (d3)])), (d1, .inl (cI, 9, .inl (aI (gw)))), (d2, .inl (cZ, 9, .inl (aZ (gz)))), (d3, .inr (2, [.ref (d4), .int (iI (fx))])), (d4, .inl (cL, 443, .inr (.inl (aB (rx9)))))]) (w1 := [(m0, .inr (2, [.ref (m1), .int (iI (fw))])), (m1, .inl (cL, 443, .inr (.inl (aB (va_cpy rw9 row 0 0 443))))), (c3, .inr (2, [.ref (c4), .int (iI (fw))])), (c4, .inl (cL, 443, .inr (.inl (aB (rw9)))))]) hP hD [11, 12, 4, 5] [0, 1, 2, 3, 6, 7, 8, 9, 10] [0, 1, 2, 3, 11, 12, 4, 5, 6, 7, 8, 9, 10] rfl rfl (by decide) (by decide) (by decide) rfl hk1 hFc hP1 rfl rfl (by decide)
      generalize H1 = H at hP hS ⊢
      have q_3 : (va_cpy rw9 row 0 0 443) = (if nw (wv fv fz) (wv gw gz) = -1 then flf row (fun _ => false) 443 else if nw (wv fv fz) (wv gw gz) = 0 then va_cpy rw9 row 0 0 443 else va_cpy rx9 row 0 0 443) := by first | (rw [if_pos (by omega)]; done) | (rw [if_neg (by omega), if_pos (by omega)]; done) | (rw [if_neg (by omega), if_neg (by omega)]; done)
      have q_4 : iI (fw) = iI (if nw (wv fv fz) (wv gw gz) = -1 then 0 else if nw (wv fv fz) (wv gw gz) = 0 then fw else fx) := congrArg iI (by first | (rw [if_pos (by omega)]; done) | (rw [if_neg (by omega), if_pos (by omega)]; done) | (rw [if_neg (by omega), if_neg (by omega)]; done))
      have hP : va_P (dC, dI) vwCl [(r0, .inr (4, [.ref (c0), .ref (d0), .int (iI (nw (wv fv fz) (wv gw gz)))])), (c0, .inr (0, [.ref (c1), .ref (c2), .ref (c3)])), (c1, .inl (cI, 9, .inl (aI (fv)))), (c2, .inl (cZ, 9, .inl (aZ (fz)))), (c3, .inr (2, [.ref (c4), .int (iI (fw))])), (c4, .inl (cL, 443, .inr (.inl (aB (rw9))))), (d0, .inr (0, [.ref (d1), .ref (d2), .ref (d3)])), (d1, .inl (cI, 9, .inl (aI (gw)))), (d2, .inl (cZ, 9, .inl (aZ (gz)))), (d3, .inr (2, [.ref (d4), .int (iI (fx))])), (d4, .inl (cL, 443, .inr (.inl (aB (rx9))))), (m0, .inr (2, [.ref (m1), .int (iI (if nw (wv fv fz) (wv gw gz) = -1 then 0 else if nw (wv fv fz) (wv gw gz) = 0 then fw else fx))])), (m1, .inl (cL, 443, .inr (.inl (aB (if nw (wv fv fz) (wv gw gz) = -1 then flf row (fun _ => false) 443 else if nw (wv fv fz) (wv gw gz) = 0 then va_cpy rw9 row 0 0 443 else va_cpy rx9 row 0 0 443)))))] H := P_eq hP (congrArg (List.cons _) (congrArg (List.cons _) (congrArg (List.cons _) (congrArg (List.cons _) (congrArg (List.cons _) (congrArg (List.cons _) (congrArg (List.cons _) (congrArg (List.cons _) (congrArg (List.cons _) (congrArg (List.cons _) (congrArg (List.cons _) (congr (congrArg List.cons (congrArg (fun z9 => ((m0 : Nat), (Sum.inr (2, z9) : va_E))) (show ([.ref (m1), .int (iI (fw))] : List Value) = [.ref (m1), .int (iI (if nw (wv fv fz) (wv gw gz) = -1 then 0 else if nw (wv fv fz) (wv gw gz) = 0 then fw else fx))] from congrArg (List.cons _) (congr (congrArg List.cons (congrArg Value.int q_4)) (rfl))))) (congr (congrArg List.cons (congrArg (fun z9 => ((m1 : Nat), (Sum.inl (cL, 443, Sum.inr (Sum.inl (aB z9))) : va_E))) q_3)) (rfl))))))))))))))
      exact W.vret hx hb hr (fun t ht hW => ⟨rfl, by rw [ht]; exact hP, hS.F ht⟩) hS.2.2 d_sr_readInto_38
    · skip
      refine lv_aload_n hx hb d_sr_readInto_23 rfl (lv_at hl 1 rfl) ?_
      refine lv_aload_n hx hb d_sr_readInto_24 rfl (lv_at hl 0 rfl) ?_
      refine lv_aload_n hx hb d_sr_readInto_25 rfl (lv_at hl 0 rfl) ?_
      refine va_get (D := (dC, dI)) (ci := 4) (v := .int (iI (nw (wv fv fz) (wv gw gz)))) (C := "OrganConsole$Store") (T := T_sr) (N := 3) hx hb htb in_sr hown hK hP 0 rfl rfl 2 (by decide) (htb _ tw_178) (fun _ h9 => h9) rfl d_sr_readInto_26 ?_
      refine pcV hx hb hml hown htb (c_sr_copyAt_1 l dC dI cI cL cZ r0 c0 d0 (nw (wv fv fz) (wv gw gz)) (nw (wv fv fz) (wv gw gz)) (by omega)) tw_253 tw_254 tw_255 tw_38 tw_256 1 (by decide +kernel) rfl rfl ⟨Nat.le_of_ble_eq_true rfl, Nat.le_of_ble_eq_true rfl⟩ ⟨Nat.zero_le _, Nat.zero_le _⟩ [.int (iI (nw (wv fv fz) (wv gw gz)))] (PW_V (q0 := 0) (ci := 4) (ws := [(r0, .inr (4, [.ref (c0), .ref (d0), .int (iI (nw (wv fv fz) (wv gw gz)))]))]) hP (hP.sub [0] rfl) hK rfl rfl) rfl hl.1 rfl (Nat.le_of_ble_eq_true rfl) d_sr_readInto_29 ?_
      refine va_get (D := (dC, dI)) (ci := 0) (v := .ref (d3)) (C := "OrganConsole$Copy") (T := T_cp) (N := 3) hx hb htb in_cp hown hK hP 6 rfl rfl 2 (by decide) (htb _ tw_167) (fun _ h9 => h9) rfl d_sr_readInto_32 ?_
      have hFc := va_free (wc := [(m0, .inr (2, [.ref (m1), .int (iI (fm))])), (m1, .inl (cL, 443, .inr (.inl (aB (row))))), (d3, .inr (2, [.ref (d4), .int (iI (fx))])), (d4, .inl (cL, 443, .inr (.inl (aB (rx9)))))]) hD hS hA [11, 12, 9, 10] rfl
      refine wcV hx hb hml hown htb (c_me_become l dC dI cI cL cZ H.size m0 m1 row fm d3 d4 rx9 fx) tw_257 tw_258 tw_259 tw_37 tw_260 1 (by decide +kernel) rfl rfl ⟨Nat.le_of_ble_eq_true rfl, Nat.le_of_ble_eq_true rfl⟩ ⟨Nat.zero_le _, Nat.zero_le _⟩ [.ref (d3)] (PS_V (q0 := 11) (ci := 2) (ws := [(m0, .inr (2, [.ref (m1), .int (iI (fm))])), (m1, .inl (cL, 443, .inr (.inl (aB (row))))), (d3, .inr (2, [.ref (d4), .int (iI (fx))])), (d4, .inl (cL, 443, .inr (.inl (aB (rx9)))))]) hP (hP.sub [11, 12, 9, 10] rfl) hK (hD.sub [11, 12, 9, 10] (by decide) rfl) hN rfl rfl) rfl hl.1 rfl (Nat.le_of_ble_eq_true rfl) d_sr_readInto_35 hS hFc (fun H1 locs hP1 hz1 hk1 hS => ?_)
      obtain ⟨hP, hD⟩ := wc_join (wc := [(m0, .inr (2, [.ref (m1), .int (iI (fm))])), (m1, .inl (cL, 443, .inr (.inl (aB (row))))), (d3, .inr (2, [.ref (d4), .int (iI (fx))])), (d4, .inl (cL, 443, .inr (.inl (aB (rx9)))))]) (w2 := [(r0, .inr (4, [.ref (c0), .ref (d0), .int (iI (nw (wv fv fz) (wv gw gz)))])), (c0, .inr (0, [.ref (c1), .ref (c2), .ref (c3)])), (c1, .inl (cI, 9, .inl (aI (fv)))), (c2, .inl (cZ, 9, .inl (aZ (fz)))), (c3, .inr (2, [.ref (c4), .int (iI (fw))])), (c4, .inl (cL, 443, .inr (.inl (aB (rw9))))), (d0, .inr (0, [.ref (d1), .ref (d2), .ref (d3)])), (d1, .inl (cI, 9, .inl (aI (gw)))), (d2, .inl (cZ, 9, .inl (aZ (gz)))), (d3, .inr (2, [.ref (d4), .int (iI (fx))])), (d4, .inl (cL, 443, .inr (.inl (aB (rx9))))), (m0, .inr (2, [.ref (m1), .int (iI (fx))])), (m1, .inl (cL, 443, .inr (.inl (aB (va_cpy rx9 row 0 0 443)))))]) (wr := [(r0, .inr (4, [.ref (c0), .ref (d0), .int (iI (nw (wv fv fz) (wv gw gz)))])), (c0, .inr (0, [.ref (c1), .ref (c2), .ref (c3)])), (c1, .inl (cI, 9, .inl (aI (fv)))), (c2, .inl (cZ, 9, .inl (aZ (fz)))), (c3, .inr (2, [.ref (c4), .int (iI (fw))])), (c4, .inl (cL, 443, .inr (.inl (aB (rw9))))), (d0, .inr (0, [.ref (d1), .ref (d2), .ref (d3)])), (d1, .inl (cI, 9, .inl (aI (gw)))), (d2, .inl (cZ, 9, .inl (aZ (gz))))]) (w1 := [(m0, .inr (2, [.ref (m1), .int (iI (fx))])), (m1, .inl (cL, 443, .inr (.inl (aB (va_cpy rx9 row 0 0 443))))), (d3, .inr (2, [.ref (d4), .int (iI (fx))])), (d4, .inl (cL, 443, .inr (.inl (aB (rx9)))))]) hP hD [11, 12, 9, 10] [0, 1, 2, 3, 4, 5, 6, 7, 8] [0, 1, 2, 3, 4, 5, 6, 7, 8, 11, 12, 9, 10] rfl rfl (by decide) (by decide) (by decide) rfl hk1 hFc hP1 rfl rfl (by decide)
      generalize H1 = H at hP hS ⊢
      have q_5 : (va_cpy rx9 row 0 0 443) = (if nw (wv fv fz) (wv gw gz) = -1 then flf row (fun _ => false) 443 else if nw (wv fv fz) (wv gw gz) = 0 then va_cpy rw9 row 0 0 443 else va_cpy rx9 row 0 0 443) := by first | (rw [if_pos (by omega)]; done) | (rw [if_neg (by omega), if_pos (by omega)]; done) | (rw [if_neg (by omega), if_neg (by omega)]; done)
      have q_6 : iI (fx) = iI (if nw (wv fv fz) (wv gw gz) = -1 then 0 else if nw (wv fv fz) (wv gw gz) = 0 then fw else fx) := congrArg iI (by first | (rw [if_pos (by omega)]; done) | (rw [if_neg (by omega), if_pos (by omega)]; done) | (rw [if_neg (by omega), if_neg (by omega)]; done))
      have hP : va_P (dC, dI) vwCl [(r0, .inr (4, [.ref (c0), .ref (d0), .int (iI (nw (wv fv fz) (wv gw gz)))])), (c0, .inr (0, [.ref (c1), .ref (c2), .ref (c3)])), (c1, .inl (cI, 9, .inl (aI (fv)))), (c2, .inl (cZ, 9, .inl (aZ (fz)))), (c3, .inr (2, [.ref (c4), .int (iI (fw))])), (c4, .inl (cL, 443, .inr (.inl (aB (rw9))))), (d0, .inr (0, [.ref (d1), .ref (d2), .ref (d3)])), (d1, .inl (cI, 9, .inl (aI (gw)))), (d2, .inl (cZ, 9, .inl (aZ (gz)))), (d3, .inr (2, [.ref (d4), .int (iI (fx))])), (d4, .inl (cL, 443, .inr (.inl (aB (rx9))))), (m0, .inr (2, [.ref (m1), .int (iI (if nw (wv fv fz) (wv gw gz) = -1 then 0 else if nw (wv fv fz) (wv gw gz) = 0 then fw else fx))])), (m1, .inl (cL, 443, .inr (.inl (aB (if nw (wv fv fz) (wv gw gz) = -1 then flf row (fun _ => false) 443 else if nw (wv fv fz) (wv gw gz) = 0 then va_cpy rw9 row 0 0 443 else va_cpy rx9 row 0 0 443)))))] H := P_eq hP (congrArg (List.cons _) (congrArg (List.cons _) (congrArg (List.cons _) (congrArg (List.cons _) (congrArg (List.cons _) (congrArg (List.cons _) (congrArg (List.cons _) (congrArg (List.cons _) (congrArg (List.cons _) (congrArg (List.cons _) (congrArg (List.cons _) (congr (congrArg List.cons (congrArg (fun z9 => ((m0 : Nat), (Sum.inr (2, z9) : va_E))) (show ([.ref (m1), .int (iI (fx))] : List Value) = [.ref (m1), .int (iI (if nw (wv fv fz) (wv gw gz) = -1 then 0 else if nw (wv fv fz) (wv gw gz) = 0 then fw else fx))] from congrArg (List.cons _) (congr (congrArg List.cons (congrArg Value.int q_6)) (rfl))))) (congr (congrArg List.cons (congrArg (fun z9 => ((m1 : Nat), (Sum.inl (cL, 443, Sum.inr (Sum.inl (aB z9))) : va_E))) q_5)) (rfl))))))))))))))
      exact W.vret hx hb hr (fun t ht hW => ⟨rfl, by rw [ht]; exact hP, hS.F ht⟩) hS.2.2 d_sr_readInto_38
  · skip
    refine lv_aload_n hx hb d_sr_readInto_16 rfl (lv_at hl 1 rfl) ?_
    have hFc := va_free (wc := [(m0, .inr (2, [.ref (m1), .int (iI (fm))])), (m1, .inl (cL, 443, .inr (.inl (aB (row)))))]) hD hS hA [11, 12] rfl
    refine wcV hx hb hml hown htb (c_me_empty l dC dI cI cL cZ H.size m0 m1 row fm ) tw_246 tw_247 tw_248 tw_37 tw_249 0 (by decide +kernel) rfl rfl ⟨Nat.le_of_ble_eq_true rfl, Nat.le_of_ble_eq_true rfl⟩ ⟨Nat.zero_le _, Nat.zero_le _⟩ [] (PS_V (q0 := 11) (ci := 2) (ws := [(m0, .inr (2, [.ref (m1), .int (iI (fm))])), (m1, .inl (cL, 443, .inr (.inl (aB (row)))))]) hP (hP.sub [11, 12] rfl) hK (hD.sub [11, 12] (by decide) rfl) hN rfl rfl) rfl hl.1 rfl (Nat.le_of_ble_eq_true rfl) d_sr_readInto_17 hS hFc (fun H1 locs hP1 hz1 hk1 hS => ?_)
    obtain ⟨hP, hD⟩ := wc_join (wc := [(m0, .inr (2, [.ref (m1), .int (iI (fm))])), (m1, .inl (cL, 443, .inr (.inl (aB (row)))))]) (w2 := [(r0, .inr (4, [.ref (c0), .ref (d0), .int (iI (nw (wv fv fz) (wv gw gz)))])), (c0, .inr (0, [.ref (c1), .ref (c2), .ref (c3)])), (c1, .inl (cI, 9, .inl (aI (fv)))), (c2, .inl (cZ, 9, .inl (aZ (fz)))), (c3, .inr (2, [.ref (c4), .int (iI (fw))])), (c4, .inl (cL, 443, .inr (.inl (aB (rw9))))), (d0, .inr (0, [.ref (d1), .ref (d2), .ref (d3)])), (d1, .inl (cI, 9, .inl (aI (gw)))), (d2, .inl (cZ, 9, .inl (aZ (gz)))), (d3, .inr (2, [.ref (d4), .int (iI (fx))])), (d4, .inl (cL, 443, .inr (.inl (aB (rx9))))), (m0, .inr (2, [.ref (m1), .int (iI (0))])), (m1, .inl (cL, 443, .inr (.inl (aB (flf row (fun _ => false) 443)))))]) (wr := [(r0, .inr (4, [.ref (c0), .ref (d0), .int (iI (nw (wv fv fz) (wv gw gz)))])), (c0, .inr (0, [.ref (c1), .ref (c2), .ref (c3)])), (c1, .inl (cI, 9, .inl (aI (fv)))), (c2, .inl (cZ, 9, .inl (aZ (fz)))), (c3, .inr (2, [.ref (c4), .int (iI (fw))])), (c4, .inl (cL, 443, .inr (.inl (aB (rw9))))), (d0, .inr (0, [.ref (d1), .ref (d2), .ref (d3)])), (d1, .inl (cI, 9, .inl (aI (gw)))), (d2, .inl (cZ, 9, .inl (aZ (gz)))), (d3, .inr (2, [.ref (d4), .int (iI (fx))])), (d4, .inl (cL, 443, .inr (.inl (aB (rx9)))))]) (w1 := [(m0, .inr (2, [.ref (m1), .int (iI (0))])), (m1, .inl (cL, 443, .inr (.inl (aB (flf row (fun _ => false) 443)))))]) hP hD [11, 12] [0, 1, 2, 3, 4, 5, 6, 7, 8, 9, 10] [0, 1, 2, 3, 4, 5, 6, 7, 8, 9, 10, 11, 12] rfl rfl (by decide) (by decide) (by decide) rfl hk1 hFc hP1 rfl rfl (by decide)
    generalize H1 = H at hP hS ⊢
    refine lv_goto (tgt := 38) hx hb d_sr_readInto_20 (by decide) ?_
    have q_7 : (flf row (fun _ => false) 443) = (if nw (wv fv fz) (wv gw gz) = -1 then flf row (fun _ => false) 443 else if nw (wv fv fz) (wv gw gz) = 0 then va_cpy rw9 row 0 0 443 else va_cpy rx9 row 0 0 443) := by first | (rw [if_pos (by omega)]; done) | (rw [if_neg (by omega), if_pos (by omega)]; done) | (rw [if_neg (by omega), if_neg (by omega)]; done)
    have q_8 : iI (0) = iI (if nw (wv fv fz) (wv gw gz) = -1 then 0 else if nw (wv fv fz) (wv gw gz) = 0 then fw else fx) := congrArg iI (by first | (rw [if_pos (by omega)]; done) | (rw [if_neg (by omega), if_pos (by omega)]; done) | (rw [if_neg (by omega), if_neg (by omega)]; done))
    have hP : va_P (dC, dI) vwCl [(r0, .inr (4, [.ref (c0), .ref (d0), .int (iI (nw (wv fv fz) (wv gw gz)))])), (c0, .inr (0, [.ref (c1), .ref (c2), .ref (c3)])), (c1, .inl (cI, 9, .inl (aI (fv)))), (c2, .inl (cZ, 9, .inl (aZ (fz)))), (c3, .inr (2, [.ref (c4), .int (iI (fw))])), (c4, .inl (cL, 443, .inr (.inl (aB (rw9))))), (d0, .inr (0, [.ref (d1), .ref (d2), .ref (d3)])), (d1, .inl (cI, 9, .inl (aI (gw)))), (d2, .inl (cZ, 9, .inl (aZ (gz)))), (d3, .inr (2, [.ref (d4), .int (iI (fx))])), (d4, .inl (cL, 443, .inr (.inl (aB (rx9))))), (m0, .inr (2, [.ref (m1), .int (iI (if nw (wv fv fz) (wv gw gz) = -1 then 0 else if nw (wv fv fz) (wv gw gz) = 0 then fw else fx))])), (m1, .inl (cL, 443, .inr (.inl (aB (if nw (wv fv fz) (wv gw gz) = -1 then flf row (fun _ => false) 443 else if nw (wv fv fz) (wv gw gz) = 0 then va_cpy rw9 row 0 0 443 else va_cpy rx9 row 0 0 443)))))] H := P_eq hP (congrArg (List.cons _) (congrArg (List.cons _) (congrArg (List.cons _) (congrArg (List.cons _) (congrArg (List.cons _) (congrArg (List.cons _) (congrArg (List.cons _) (congrArg (List.cons _) (congrArg (List.cons _) (congrArg (List.cons _) (congrArg (List.cons _) (congr (congrArg List.cons (congrArg (fun z9 => ((m0 : Nat), (Sum.inr (2, z9) : va_E))) (show ([.ref (m1), .int (iI (0))] : List Value) = [.ref (m1), .int (iI (if nw (wv fv fz) (wv gw gz) = -1 then 0 else if nw (wv fv fz) (wv gw gz) = 0 then fw else fx))] from congrArg (List.cons _) (congr (congrArg List.cons (congrArg Value.int q_8)) (rfl))))) (congr (congrArg List.cons (congrArg (fun z9 => ((m1 : Nat), (Sum.inl (cL, 443, Sum.inr (Sum.inl (aB z9))) : va_E))) q_7)) (rfl))))))))))))))
    exact W.vret hx hb hr (fun t ht hW => ⟨rfl, by rw [ht]; exact hP, hS.F ht⟩) hS.2.2 d_sr_readInto_38

