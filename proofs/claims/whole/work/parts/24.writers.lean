/-! writing methods of Stops, Keywork, Memory -/
set_option maxHeartbeats 200000 in
set_option maxRecDepth 100000 in
theorem c_st_turn (l : Launch) (dC : Nat → ClassId) (dI : Nat → Nat → Nat) (cI cL cZ : ClassId) (sz : Nat) (s0 s1 s2 s3 s4 s5 s6 s7 : Nat) (fd fs fl fh ft fc : Nat → Int) (go : Nat → Nat → Bool) (n : Nat) (kn : Nat → Bool) (hn : n ≤ 48) (hfc : ∀ s, 0 ≤ fc s ∧ fc s ≤ 2) (k : Nat) (z : Int) (hz : z = (k : Int)) (hk : k < 48) : Met l y_st_turn (Cond.code y_st_turn prog_5_method_8_code 2 (some .int) :: TB) ({ frames := 0, cells := 0, slots := 0, locals := 0 }) (va_Pc [.ref (s0), .int (iI (z))] (PS dC dI [(s0, .inr (3, [.ref (s1), .ref (s2), .ref (s3), .ref (s4), .ref (s5), .ref (s6), .ref (s7), .int (iI (((n : Nat) : Int))), .long (bL (kn))])), (s1, .inl (cI, 48, .inl (aI (fd)))), (s2, .inl (cI, 48, .inl (aI (fs)))), (s3, .inl (cI, 48, .inl (aI (fl)))), (s4, .inl (cI, 48, .inl (aI (fh)))), (s5, .inl (cI, 48, .inl (aI (ft)))), (s6, .inl (cI, 48, .inl (aI (fc)))), (s7, .inl (cL, 5, .inr (.inl (aB (go)))))] [(cI, .int), (cL, .long), (cZ, .boolean)] sz)) (QW dC dI (some (.int (iI (tni fc k)))) [(s0, .inr (3, [.ref (s1), .ref (s2), .ref (s3), .ref (s4), .ref (s5), .ref (s6), .ref (s7), .int (iI (((n : Nat) : Int))), .long (bL (tnk kn fc k))])), (s1, .inl (cI, 48, .inl (aI (fd)))), (s2, .inl (cI, 48, .inl (aI (fs)))), (s3, .inl (cI, 48, .inl (aI (fl)))), (s4, .inl (cI, 48, .inl (aI (fh)))), (s5, .inl (cI, 48, .inl (aI (ft)))), (s6, .inl (cI, 48, .inl (aI (fc)))), (s7, .inl (cL, 5, .inr (.inl (aB (go)))))] (va_A [(s0, .inr (3, [.ref (s1), .ref (s2), .ref (s3), .ref (s4), .ref (s5), .ref (s6), .ref (s7), .int (iI (((n : Nat) : Int))), .long (bL (kn))])), (s1, .inl (cI, 48, .inl (aI (fd)))), (s2, .inl (cI, 48, .inl (aI (fs)))), (s3, .inl (cI, 48, .inl (aI (fl)))), (s4, .inl (cI, 48, .inl (aI (fh)))), (s5, .inl (cI, 48, .inl (aI (ft)))), (s6, .inl (cI, 48, .inl (aI (fc)))), (s7, .inl (cL, 5, .inr (.inl (aB (go)))))] sz)) 0 0 (va_A [(s0, .inr (3, [.ref (s1), .ref (s2), .ref (s3), .ref (s4), .ref (s5), .ref (s6), .ref (s7), .int (iI (((n : Nat) : Int))), .long (bL (kn))])), (s1, .inl (cI, 48, .inl (aI (fd)))), (s2, .inl (cI, 48, .inl (aI (fs)))), (s3, .inl (cI, 48, .inl (aI (fl)))), (s4, .inl (cI, 48, .inl (aI (fh)))), (s5, .inl (cI, 48, .inl (aI (ft)))), (s6, .inl (cI, 48, .inl (aI (fc)))), (s7, .inl (cL, 5, .inr (.inl (aB (go)))))] sz) := by
  refine Met.ofW (cc := prog_5_method_8_code) (maxL := 2) (ret := (some .int)) (by decide) rfl ?_
  intro p e s m args below meth c s₁ B hml hv
  obtain ⟨ha, hsz, hP, hK, hD0, hN⟩ := hv
  have hx := B.exec
  have hb := B.bytes
  have hr := B.returns
  have htb : ∀ w ∈ TB, w.before args s = true := fun w h => atoms_spec (ws := Cond.code y_st_turn prog_5_method_8_code 2 (some .int) :: TB) B.pre w (List.mem_cons_of_mem _ h)
  have hown : s.vm.findClass "OrganConsole$Stops" = some m.cls := findClass_of_methodNamed B.named
  have hlocks := B.notSynchronized
  subst hsz
  have hD := hD0.self (sz := s.heap.size)
  generalize hAe : va_A [(s0, .inr (3, [.ref (s1), .ref (s2), .ref (s3), .ref (s4), .ref (s5), .ref (s6), .ref (s7), .int (iI (((n : Nat) : Int))), .long (bL (kn))])), (s1, .inl (cI, 48, .inl (aI (fd)))), (s2, .inl (cI, 48, .inl (aI (fs)))), (s3, .inl (cI, 48, .inl (aI (fl)))), (s4, .inl (cI, 48, .inl (aI (fh)))), (s5, .inl (cI, 48, .inl (aI (ft)))), (s6, .inl (cI, 48, .inl (aI (fc)))), (s7, .inl (cL, 5, .inr (.inl (aB (go)))))] s.heap.size = A at hD ⊢
  have hA : ∀ q : Nat, s.heap.size ≤ q → A q := fun q h => by rw [← hAe]; exact Or.inr h
  have hS : va_S A s.heap s.heap [] := va_S.rf
  have hl := lv_entry ([.ref (s0), .int (iI (z))]) (n := 2) (Nat.le_of_ble_eq_true rfl)
  refine W.eq (g2 := F0 m 0 _ []) (by rw [ha]; exact lg_entry_eq m ([.ref (s0), .int (iI (z))]) 2) ?_
  generalize (lg_sl ([.ref (s0), .int (iI (z))]) ++ List.replicate (2 - (lg_sl ([.ref (s0), .int (iI (z))])).length) Slot.unset).toArray = ls at hl ⊢
  have hl : lv_has ls 2 [(0, .ref (s0)), (1, .int (iI (z)))] := hl
  refine lv_aload_n hx hb d_st_turn_0 rfl (lv_at hl 0 rfl) ?_
  refine va_get (D := (dC, dI)) (ci := 3) (v := .ref (s6)) (C := "OrganConsole$Stops") (T := T_st) (N := 9) hx hb htb in_st hown hK hP 0 rfl rfl 5 (by decide) (htb _ tw_105) (fun _ h9 => h9) rfl d_st_turn_1 ?_
  refine lv_iload_n hx hb d_st_turn_4 rfl (lv_at hl 1 rfl) ?_
  refine xa_iald hx hb hK hP 6 0 rfl rfl k hz hk (by decide) d_st_turn_5 ?_
  have hc := hfc k
  refine xi_if_eq (tgt := 11) hx hb ⟨by omega, by omega⟩ d_st_turn_6 (by decide) (fun u_1 => ?_) (fun u_1 => ?_)
  · skip
    refine lv_aload_n hx hb d_st_turn_11 rfl (lv_at hl 0 rfl) ?_
    refine lv_dup hx hb d_st_turn_12 rfl ?_
    refine va_get (D := (dC, dI)) (ci := 3) (v := .long (bL (kn))) (C := "OrganConsole$Stops") (T := T_st) (N := 9) hx hb htb in_st hown hK hP 0 rfl rfl 8 (by decide) (htb _ tw_111) (fun _ h9 => h9) rfl d_st_turn_13 ?_
    refine lv_lconst (v := bL (fun j => decide (j = 0))) hx hb d_st_turn_16 bL_1 ?_
    refine lv_iload_n hx hb d_st_turn_17 rfl (lv_at hl 1 rfl) ?_
    refine xb_shl (f := fun j => decide (j = 0)) hx hb k hz (by omega) d_st_turn_18 ?_
    refine xb_xor (f := kn) (g := fun j => decide (k ≤ j) && (fun j => decide (j = 0)) (j - k)) hx hb d_st_turn_19 ?_
    have q_2 : bL (fun j => (kn) j ^^ (fun j => decide (k ≤ j) && (fun j => decide (j = 0)) (j - k)) j) = bL (va_up (kn) k (!(kn) k)) := bL_flip
    rw [q_2]
    refine va_put (D := (dC, dI)) (ci := 3) (v := .long (bL (va_up (kn) k (!(kn) k)))) (ty := .long) (C := "OrganConsole$Stops") (T := T_st) (N := 9) hx hb htb in_st ty_st ty_st_ok nm_st hown hK hP hD hS 0 rfl rfl 8 (by decide) (htb _ tw_111) (fun _ h9 => h9) rfl (by decide +kernel) rfl rfl (Nat.le_of_ble_eq_true rfl) d_st_turn_20 (fun H locs hP hD hS => ?_)
    have hP : va_P (dC, dI) vwCl [(s0, .inr (3, [.ref (s1), .ref (s2), .ref (s3), .ref (s4), .ref (s5), .ref (s6), .ref (s7), .int (iI (((n : Nat) : Int))), .long (bL (va_up (kn) k (!(kn) k)))])), (s1, .inl (cI, 48, .inl (aI (fd)))), (s2, .inl (cI, 48, .inl (aI (fs)))), (s3, .inl (cI, 48, .inl (aI (fl)))), (s4, .inl (cI, 48, .inl (aI (fh)))), (s5, .inl (cI, 48, .inl (aI (ft)))), (s6, .inl (cI, 48, .inl (aI (fc)))), (s7, .inl (cL, 5, .inr (.inl (aB (go)))))] H := hP
    have hD : va_D A [(s0, .inr (3, [.ref (s1), .ref (s2), .ref (s3), .ref (s4), .ref (s5), .ref (s6), .ref (s7), .int (iI (((n : Nat) : Int))), .long (bL (va_up (kn) k (!(kn) k)))])), (s1, .inl (cI, 48, .inl (aI (fd)))), (s2, .inl (cI, 48, .inl (aI (fs)))), (s3, .inl (cI, 48, .inl (aI (fl)))), (s4, .inl (cI, 48, .inl (aI (fh)))), (s5, .inl (cI, 48, .inl (aI (ft)))), (s6, .inl (cI, 48, .inl (aI (fc)))), (s7, .inl (cL, 5, .inr (.inl (aB (go)))))] := hD
    refine lv_iconst (v := iI (1)) hx hb d_st_turn_23 rfl ?_
    have q_3 : iI (1) = iI (tni fc k) := by
      rw [tni_y (by assumption)]
    rw [q_3]
    have q_4 : bL (va_up (kn) k (!(kn) k)) = bL (tnk kn fc k) := by first | rw [tnk_n (by assumption)] | rw [tnk_y (by assumption)]
    have hP : va_P (dC, dI) vwCl [(s0, .inr (3, [.ref (s1), .ref (s2), .ref (s3), .ref (s4), .ref (s5), .ref (s6), .ref (s7), .int (iI (((n : Nat) : Int))), .long (bL (tnk kn fc k))])), (s1, .inl (cI, 48, .inl (aI (fd)))), (s2, .inl (cI, 48, .inl (aI (fs)))), (s3, .inl (cI, 48, .inl (aI (fl)))), (s4, .inl (cI, 48, .inl (aI (fh)))), (s5, .inl (cI, 48, .inl (aI (ft)))), (s6, .inl (cI, 48, .inl (aI (fc)))), (s7, .inl (cL, 5, .inr (.inl (aB (go)))))] H := P_eq hP (congr (congrArg List.cons (congrArg (fun z9 => ((s0 : Nat), (Sum.inr (3, z9) : va_E))) (show ([.ref (s1), .ref (s2), .ref (s3), .ref (s4), .ref (s5), .ref (s6), .ref (s7), .int (iI (((n : Nat) : Int))), .long (bL (va_up (kn) k (!(kn) k)))] : List Value) = [.ref (s1), .ref (s2), .ref (s3), .ref (s4), .ref (s5), .ref (s6), .ref (s7), .int (iI (((n : Nat) : Int))), .long (bL (tnk kn fc k))] from congrArg (List.cons _) (congrArg (List.cons _) (congrArg (List.cons _) (congrArg (List.cons _) (congrArg (List.cons _) (congrArg (List.cons _) (congrArg (List.cons _) (congrArg (List.cons _) (congr (congrArg List.cons (congrArg Value.long q_4)) (rfl)))))))))))) (congrArg (List.cons _) (congrArg (List.cons _) (congrArg (List.cons _) (congrArg (List.cons _) (congrArg (List.cons _) (congrArg (List.cons _) (congrArg (List.cons _) (rfl)))))))))
    exact W.iret (v := iI (tni fc k)) hx hb hr (fun t ht hW => ⟨rfl, by rw [ht]; exact hP, hS.F ht⟩) hS.2.2 d_st_turn_24
  · skip
    refine lv_iconst (v := iI (0)) hx hb d_st_turn_9 rfl ?_
    have q_5 : iI (0) = iI (tni fc k) := by
      rw [tni_n (by assumption)]
    rw [q_5]
    have q_6 : bL (kn) = bL (tnk kn fc k) := by first | rw [tnk_n (by assumption)] | rw [tnk_y (by assumption)]
    have hP : va_P (dC, dI) vwCl [(s0, .inr (3, [.ref (s1), .ref (s2), .ref (s3), .ref (s4), .ref (s5), .ref (s6), .ref (s7), .int (iI (((n : Nat) : Int))), .long (bL (tnk kn fc k))])), (s1, .inl (cI, 48, .inl (aI (fd)))), (s2, .inl (cI, 48, .inl (aI (fs)))), (s3, .inl (cI, 48, .inl (aI (fl)))), (s4, .inl (cI, 48, .inl (aI (fh)))), (s5, .inl (cI, 48, .inl (aI (ft)))), (s6, .inl (cI, 48, .inl (aI (fc)))), (s7, .inl (cL, 5, .inr (.inl (aB (go)))))] s.heap := P_eq hP (congr (congrArg List.cons (congrArg (fun z9 => ((s0 : Nat), (Sum.inr (3, z9) : va_E))) (show ([.ref (s1), .ref (s2), .ref (s3), .ref (s4), .ref (s5), .ref (s6), .ref (s7), .int (iI (((n : Nat) : Int))), .long (bL (kn))] : List Value) = [.ref (s1), .ref (s2), .ref (s3), .ref (s4), .ref (s5), .ref (s6), .ref (s7), .int (iI (((n : Nat) : Int))), .long (bL (tnk kn fc k))] from congrArg (List.cons _) (congrArg (List.cons _) (congrArg (List.cons _) (congrArg (List.cons _) (congrArg (List.cons _) (congrArg (List.cons _) (congrArg (List.cons _) (congrArg (List.cons _) (congr (congrArg List.cons (congrArg Value.long q_6)) (rfl)))))))))))) (congrArg (List.cons _) (congrArg (List.cons _) (congrArg (List.cons _) (congrArg (List.cons _) (congrArg (List.cons _) (congrArg (List.cons _) (congrArg (List.cons _) (rfl)))))))))
    exact W.iret (v := iI (tni fc k)) hx hb hr (fun t ht hW => ⟨rfl, by rw [ht]; exact hP, hS.F ht⟩) hS.2.2 d_st_turn_10

set_option maxHeartbeats 200000 in
set_option maxRecDepth 100000 in
theorem c_st_addStop (l : Launch) (dC : Nat → ClassId) (dI : Nat → Nat → Nat) (cI cL cZ : ClassId) (sz : Nat) (s0 s1 s2 s3 s4 s5 s6 s7 : Nat) (fd fs fl fh ft fc : Nat → Int) (go : Nat → Nat → Bool) (n : Nat) (kn : Nat → Bool) (hn : n ≤ 48) (d sh lo hi : Int) (hn8 : n < 48) (hd : 0 ≤ d) (hd5 : d < 5) : Met l y_st_addStop (Cond.code y_st_addStop prog_5_method_2_code 6 (some .int) :: TB) ({ frames := 1, cells := 0, slots := 0, locals := 25 }) (va_Pc [.ref (s0), .int (iI (d)), .int (iI (sh)), .int (iI (lo)), .int (iI (hi))] (PS dC dI [(s0, .inr (3, [.ref (s1), .ref (s2), .ref (s3), .ref (s4), .ref (s5), .ref (s6), .ref (s7), .int (iI (((n : Nat) : Int))), .long (bL (kn))])), (s1, .inl (cI, 48, .inl (aI (fd)))), (s2, .inl (cI, 48, .inl (aI (fs)))), (s3, .inl (cI, 48, .inl (aI (fl)))), (s4, .inl (cI, 48, .inl (aI (fh)))), (s5, .inl (cI, 48, .inl (aI (ft)))), (s6, .inl (cI, 48, .inl (aI (fc)))), (s7, .inl (cL, 5, .inr (.inl (aB (go)))))] [(cI, .int), (cL, .long), (cZ, .boolean)] sz)) (QW dC dI (some (.int (iI (((n : Nat) : Int))))) [(s0, .inr (3, [.ref (s1), .ref (s2), .ref (s3), .ref (s4), .ref (s5), .ref (s6), .ref (s7), .int (iI (((n + 1 : Nat) : Int))), .long (bL (kn))])), (s1, .inl (cI, 48, .inl (aI (va_up fd n d)))), (s2, .inl (cI, 48, .inl (aI (va_up fs n sh)))), (s3, .inl (cI, 48, .inl (aI (va_up fl n lo)))), (s4, .inl (cI, 48, .inl (aI (va_up fh n hi)))), (s5, .inl (cI, 48, .inl (aI (ft)))), (s6, .inl (cI, 48, .inl (aI (fc)))), (s7, .inl (cL, 5, .inr (.inl (aB (va_up go d.toNat (va_up (go d.toNat) n true))))))] (va_A [(s0, .inr (3, [.ref (s1), .ref (s2), .ref (s3), .ref (s4), .ref (s5), .ref (s6), .ref (s7), .int (iI (((n : Nat) : Int))), .long (bL (kn))])), (s1, .inl (cI, 48, .inl (aI (fd)))), (s2, .inl (cI, 48, .inl (aI (fs)))), (s3, .inl (cI, 48, .inl (aI (fl)))), (s4, .inl (cI, 48, .inl (aI (fh)))), (s5, .inl (cI, 48, .inl (aI (ft)))), (s6, .inl (cI, 48, .inl (aI (fc)))), (s7, .inl (cL, 5, .inr (.inl (aB (go)))))] sz)) 0 0 (va_A [(s0, .inr (3, [.ref (s1), .ref (s2), .ref (s3), .ref (s4), .ref (s5), .ref (s6), .ref (s7), .int (iI (((n : Nat) : Int))), .long (bL (kn))])), (s1, .inl (cI, 48, .inl (aI (fd)))), (s2, .inl (cI, 48, .inl (aI (fs)))), (s3, .inl (cI, 48, .inl (aI (fl)))), (s4, .inl (cI, 48, .inl (aI (fh)))), (s5, .inl (cI, 48, .inl (aI (ft)))), (s6, .inl (cI, 48, .inl (aI (fc)))), (s7, .inl (cL, 5, .inr (.inl (aB (go)))))] sz) := by
  refine Met.ofW (cc := prog_5_method_2_code) (maxL := 6) (ret := (some .int)) (by decide) rfl ?_
  intro p e s m args below meth c s₁ B hml hv
  obtain ⟨ha, hsz, hP, hK, hD0, hN⟩ := hv
  have hx := B.exec
  have hb := B.bytes
  have hr := B.returns
  have htb : ∀ w ∈ TB, w.before args s = true := fun w h => atoms_spec (ws := Cond.code y_st_addStop prog_5_method_2_code 6 (some .int) :: TB) B.pre w (List.mem_cons_of_mem _ h)
  have hown : s.vm.findClass "OrganConsole$Stops" = some m.cls := findClass_of_methodNamed B.named
  have hlocks := B.notSynchronized
  subst hsz
  have hD := hD0.self (sz := s.heap.size)
  generalize hAe : va_A [(s0, .inr (3, [.ref (s1), .ref (s2), .ref (s3), .ref (s4), .ref (s5), .ref (s6), .ref (s7), .int (iI (((n : Nat) : Int))), .long (bL (kn))])), (s1, .inl (cI, 48, .inl (aI (fd)))), (s2, .inl (cI, 48, .inl (aI (fs)))), (s3, .inl (cI, 48, .inl (aI (fl)))), (s4, .inl (cI, 48, .inl (aI (fh)))), (s5, .inl (cI, 48, .inl (aI (ft)))), (s6, .inl (cI, 48, .inl (aI (fc)))), (s7, .inl (cL, 5, .inr (.inl (aB (go)))))] s.heap.size = A at hD ⊢
  have hA : ∀ q : Nat, s.heap.size ≤ q → A q := fun q h => by rw [← hAe]; exact Or.inr h
  have hS : va_S A s.heap s.heap [] := va_S.rf
  have hl := lv_entry ([.ref (s0), .int (iI (d)), .int (iI (sh)), .int (iI (lo)), .int (iI (hi))]) (n := 6) (Nat.le_of_ble_eq_true rfl)
  refine W.eq (g2 := F0 m 0 _ []) (by rw [ha]; exact lg_entry_eq m ([.ref (s0), .int (iI (d)), .int (iI (sh)), .int (iI (lo)), .int (iI (hi))]) 6) ?_
  generalize (lg_sl ([.ref (s0), .int (iI (d)), .int (iI (sh)), .int (iI (lo)), .int (iI (hi))]) ++ List.replicate (6 - (lg_sl ([.ref (s0), .int (iI (d)), .int (iI (sh)), .int (iI (lo)), .int (iI (hi))])).length) Slot.unset).toArray = ls at hl ⊢
  have hl : lv_has ls 6 [(0, .ref (s0)), (1, .int (iI (d))), (2, .int (iI (sh))), (3, .int (iI (lo))), (4, .int (iI (hi)))] := hl
  refine lv_aload_n hx hb d_st_addStop_0 rfl (lv_at hl 0 rfl) ?_
  refine va_get (D := (dC, dI)) (ci := 3) (v := .int (iI (((n : Nat) : Int)))) (C := "OrganConsole$Stops") (T := T_st) (N := 9) hx hb htb in_st hown hK hP 0 rfl rfl 7 (by decide) (htb _ tw_109) (fun _ h9 => h9) rfl d_st_addStop_1 ?_
  refine lv_istore hx hb d_st_addStop_4 hl (by decide) rfl (fun ls hl => ?_)
  have hl : lv_has ls 6 [(5, .int (iI (((n : Nat) : Int)))), (0, .ref (s0)), (1, .int (iI (d))), (2, .int (iI (sh))), (3, .int (iI (lo))), (4, .int (iI (hi)))] := hl
  refine lv_aload_n hx hb d_st_addStop_6 rfl (lv_at hl 1 rfl) ?_
  refine va_get (D := (dC, dI)) (ci := 3) (v := .ref (s1)) (C := "OrganConsole$Stops") (T := T_st) (N := 9) hx hb htb in_st hown hK hP 0 rfl rfl 0 (by decide) (htb _ tw_95) (fun _ h9 => h9) rfl d_st_addStop_7 ?_
  refine lv_iload hx hb d_st_addStop_10 (lv_at hl 0 rfl) ?_
  refine lv_iload_n hx hb d_st_addStop_12 rfl (lv_at hl 2 rfl) ?_
  refine xa_iast (v := d) hx hb hK hP hD hS 1 0 rfl rfl (n) (by omega) (by omega) (by decide) d_st_addStop_13 (fun H locs hP hD hS => ?_)
  have hP : va_P (dC, dI) vwCl [(s0, .inr (3, [.ref (s1), .ref (s2), .ref (s3), .ref (s4), .ref (s5), .ref (s6), .ref (s7), .int (iI (((n : Nat) : Int))), .long (bL (kn))])), (s1, .inl (cI, 48, .inl (aI (va_up (fd) (n) (d))))), (s2, .inl (cI, 48, .inl (aI (fs)))), (s3, .inl (cI, 48, .inl (aI (fl)))), (s4, .inl (cI, 48, .inl (aI (fh)))), (s5, .inl (cI, 48, .inl (aI (ft)))), (s6, .inl (cI, 48, .inl (aI (fc)))), (s7, .inl (cL, 5, .inr (.inl (aB (go)))))] H := hP
  have hD : va_D A [(s0, .inr (3, [.ref (s1), .ref (s2), .ref (s3), .ref (s4), .ref (s5), .ref (s6), .ref (s7), .int (iI (((n : Nat) : Int))), .long (bL (kn))])), (s1, .inl (cI, 48, .inl (aI (va_up (fd) (n) (d))))), (s2, .inl (cI, 48, .inl (aI (fs)))), (s3, .inl (cI, 48, .inl (aI (fl)))), (s4, .inl (cI, 48, .inl (aI (fh)))), (s5, .inl (cI, 48, .inl (aI (ft)))), (s6, .inl (cI, 48, .inl (aI (fc)))), (s7, .inl (cL, 5, .inr (.inl (aB (go)))))] := hD
  refine lv_aload_n hx hb d_st_addStop_14 rfl (lv_at hl 1 rfl) ?_
  refine va_get (D := (dC, dI)) (ci := 3) (v := .ref (s2)) (C := "OrganConsole$Stops") (T := T_st) (N := 9) hx hb htb in_st hown hK hP 0 rfl rfl 1 (by decide) (htb _ tw_97) (fun _ h9 => h9) rfl d_st_addStop_15 ?_
  refine lv_iload hx hb d_st_addStop_18 (lv_at hl 0 rfl) ?_
  refine lv_iload_n hx hb d_st_addStop_20 rfl (lv_at hl 3 rfl) ?_
  refine xa_iast (v := sh) hx hb hK hP hD hS 2 0 rfl rfl (n) (by omega) (by omega) (by decide) d_st_addStop_21 (fun H locs hP hD hS => ?_)
  have hP : va_P (dC, dI) vwCl [(s0, .inr (3, [.ref (s1), .ref (s2), .ref (s3), .ref (s4), .ref (s5), .ref (s6), .ref (s7), .int (iI (((n : Nat) : Int))), .long (bL (kn))])), (s1, .inl (cI, 48, .inl (aI (va_up (fd) (n) (d))))), (s2, .inl (cI, 48, .inl (aI (va_up (fs) (n) (sh))))), (s3, .inl (cI, 48, .inl (aI (fl)))), (s4, .inl (cI, 48, .inl (aI (fh)))), (s5, .inl (cI, 48, .inl (aI (ft)))), (s6, .inl (cI, 48, .inl (aI (fc)))), (s7, .inl (cL, 5, .inr (.inl (aB (go)))))] H := hP
  have hD : va_D A [(s0, .inr (3, [.ref (s1), .ref (s2), .ref (s3), .ref (s4), .ref (s5), .ref (s6), .ref (s7), .int (iI (((n : Nat) : Int))), .long (bL (kn))])), (s1, .inl (cI, 48, .inl (aI (va_up (fd) (n) (d))))), (s2, .inl (cI, 48, .inl (aI (va_up (fs) (n) (sh))))), (s3, .inl (cI, 48, .inl (aI (fl)))), (s4, .inl (cI, 48, .inl (aI (fh)))), (s5, .inl (cI, 48, .inl (aI (ft)))), (s6, .inl (cI, 48, .inl (aI (fc)))), (s7, .inl (cL, 5, .inr (.inl (aB (go)))))] := hD
  refine lv_aload_n hx hb d_st_addStop_22 rfl (lv_at hl 1 rfl) ?_
  refine va_get (D := (dC, dI)) (ci := 3) (v := .ref (s3)) (C := "OrganConsole$Stops") (T := T_st) (N := 9) hx hb htb in_st hown hK hP 0 rfl rfl 2 (by decide) (htb _ tw_99) (fun _ h9 => h9) rfl d_st_addStop_23 ?_
  refine lv_iload hx hb d_st_addStop_26 (lv_at hl 0 rfl) ?_
  refine lv_iload_n hx hb d_st_addStop_28 rfl (lv_at hl 4 rfl) ?_
  refine xa_iast (v := lo) hx hb hK hP hD hS 3 0 rfl rfl (n) (by omega) (by omega) (by decide) d_st_addStop_29 (fun H locs hP hD hS => ?_)
  have hP : va_P (dC, dI) vwCl [(s0, .inr (3, [.ref (s1), .ref (s2), .ref (s3), .ref (s4), .ref (s5), .ref (s6), .ref (s7), .int (iI (((n : Nat) : Int))), .long (bL (kn))])), (s1, .inl (cI, 48, .inl (aI (va_up (fd) (n) (d))))), (s2, .inl (cI, 48, .inl (aI (va_up (fs) (n) (sh))))), (s3, .inl (cI, 48, .inl (aI (va_up (fl) (n) (lo))))), (s4, .inl (cI, 48, .inl (aI (fh)))), (s5, .inl (cI, 48, .inl (aI (ft)))), (s6, .inl (cI, 48, .inl (aI (fc)))), (s7, .inl (cL, 5, .inr (.inl (aB (go)))))] H := hP
  have hD : va_D A [(s0, .inr (3, [.ref (s1), .ref (s2), .ref (s3), .ref (s4), .ref (s5), .ref (s6), .ref (s7), .int (iI (((n : Nat) : Int))), .long (bL (kn))])), (s1, .inl (cI, 48, .inl (aI (va_up (fd) (n) (d))))), (s2, .inl (cI, 48, .inl (aI (va_up (fs) (n) (sh))))), (s3, .inl (cI, 48, .inl (aI (va_up (fl) (n) (lo))))), (s4, .inl (cI, 48, .inl (aI (fh)))), (s5, .inl (cI, 48, .inl (aI (ft)))), (s6, .inl (cI, 48, .inl (aI (fc)))), (s7, .inl (cL, 5, .inr (.inl (aB (go)))))] := hD
  refine lv_aload_n hx hb d_st_addStop_30 rfl (lv_at hl 1 rfl) ?_
  refine va_get (D := (dC, dI)) (ci := 3) (v := .ref (s4)) (C := "OrganConsole$Stops") (T := T_st) (N := 9) hx hb htb in_st hown hK hP 0 rfl rfl 3 (by decide) (htb _ tw_101) (fun _ h9 => h9) rfl d_st_addStop_31 ?_
  refine lv_iload hx hb d_st_addStop_34 (lv_at hl 0 rfl) ?_
  refine lv_iload hx hb d_st_addStop_36 (lv_at hl 5 rfl) ?_
  refine xa_iast (v := hi) hx hb hK hP hD hS 4 0 rfl rfl (n) (by omega) (by omega) (by decide) d_st_addStop_38 (fun H locs hP hD hS => ?_)
  have hP : va_P (dC, dI) vwCl [(s0, .inr (3, [.ref (s1), .ref (s2), .ref (s3), .ref (s4), .ref (s5), .ref (s6), .ref (s7), .int (iI (((n : Nat) : Int))), .long (bL (kn))])), (s1, .inl (cI, 48, .inl (aI (va_up (fd) (n) (d))))), (s2, .inl (cI, 48, .inl (aI (va_up (fs) (n) (sh))))), (s3, .inl (cI, 48, .inl (aI (va_up (fl) (n) (lo))))), (s4, .inl (cI, 48, .inl (aI (va_up (fh) (n) (hi))))), (s5, .inl (cI, 48, .inl (aI (ft)))), (s6, .inl (cI, 48, .inl (aI (fc)))), (s7, .inl (cL, 5, .inr (.inl (aB (go)))))] H := hP
  have hD : va_D A [(s0, .inr (3, [.ref (s1), .ref (s2), .ref (s3), .ref (s4), .ref (s5), .ref (s6), .ref (s7), .int (iI (((n : Nat) : Int))), .long (bL (kn))])), (s1, .inl (cI, 48, .inl (aI (va_up (fd) (n) (d))))), (s2, .inl (cI, 48, .inl (aI (va_up (fs) (n) (sh))))), (s3, .inl (cI, 48, .inl (aI (va_up (fl) (n) (lo))))), (s4, .inl (cI, 48, .inl (aI (va_up (fh) (n) (hi))))), (s5, .inl (cI, 48, .inl (aI (ft)))), (s6, .inl (cI, 48, .inl (aI (fc)))), (s7, .inl (cL, 5, .inr (.inl (aB (go)))))] := hD
  refine lv_aload_n hx hb d_st_addStop_39 rfl (lv_at hl 1 rfl) ?_
  refine va_get (D := (dC, dI)) (ci := 3) (v := .ref (s7)) (C := "OrganConsole$Stops") (T := T_st) (N := 9) hx hb htb in_st hown hK hP 0 rfl rfl 6 (by decide) (htb _ tw_107) (fun _ h9 => h9) rfl d_st_addStop_40 ?_
  refine lv_iload_n hx hb d_st_addStop_43 rfl (lv_at hl 2 rfl) ?_
  refine lv_aload_n hx hb d_st_addStop_44 rfl (lv_at hl 1 rfl) ?_
  refine va_get (D := (dC, dI)) (ci := 3) (v := .ref (s7)) (C := "OrganConsole$Stops") (T := T_st) (N := 9) hx hb htb in_st hown hK hP 0 rfl rfl 6 (by decide) (htb _ tw_107) (fun _ h9 => h9) rfl d_st_addStop_45 ?_
  refine lv_iload_n hx hb d_st_addStop_48 rfl (lv_at hl 2 rfl) ?_
  refine xa_bald hx hb hK hP 7 1 rfl rfl (d).toNat (by omega) (by omega) (by decide) d_st_addStop_49 ?_
  refine lv_iload hx hb d_st_addStop_50 (lv_at hl 0 rfl) ?_
  refine lv_iconst (v := iI (1)) hx hb d_st_addStop_52 rfl ?_
  refine pcN hx hb hml hown htb (c_oc_with l ((go) (d).toNat) (n) _ (true) (by omega) (by omega)) (nb_403 hN) tw_404 tw_34 tw_405 3 (by decide +kernel) rfl rfl ⟨Nat.le_of_ble_eq_true rfl, Nat.le_of_ble_eq_true rfl⟩ ⟨Nat.zero_le _, Nat.zero_le _⟩ [.long (bL ((go) (d).toNat)), .int (iI (((n : Nat) : Int))), .int (iI (1))] ⟨fun _ _ _ _ q => q, fun U _ _ => ⟨rfl, trivial⟩⟩ rfl hl.1 rfl (Nat.le_of_ble_eq_true rfl) d_st_addStop_53 ?_
  refine xa_bast (v := va_up ((go) (d).toNat) (n) (true)) hx hb hK hP hD hS 7 1 rfl rfl (d).toNat (by omega) (by omega) (by decide) d_st_addStop_56 (fun H locs hP hD hS => ?_)
  have hP : va_P (dC, dI) vwCl [(s0, .inr (3, [.ref (s1), .ref (s2), .ref (s3), .ref (s4), .ref (s5), .ref (s6), .ref (s7), .int (iI (((n : Nat) : Int))), .long (bL (kn))])), (s1, .inl (cI, 48, .inl (aI (va_up (fd) (n) (d))))), (s2, .inl (cI, 48, .inl (aI (va_up (fs) (n) (sh))))), (s3, .inl (cI, 48, .inl (aI (va_up (fl) (n) (lo))))), (s4, .inl (cI, 48, .inl (aI (va_up (fh) (n) (hi))))), (s5, .inl (cI, 48, .inl (aI (ft)))), (s6, .inl (cI, 48, .inl (aI (fc)))), (s7, .inl (cL, 5, .inr (.inl (aB (va_up (go) (d).toNat (va_up ((go) (d).toNat) (n) (true)))))))] H := hP
  have hD : va_D A [(s0, .inr (3, [.ref (s1), .ref (s2), .ref (s3), .ref (s4), .ref (s5), .ref (s6), .ref (s7), .int (iI (((n : Nat) : Int))), .long (bL (kn))])), (s1, .inl (cI, 48, .inl (aI (va_up (fd) (n) (d))))), (s2, .inl (cI, 48, .inl (aI (va_up (fs) (n) (sh))))), (s3, .inl (cI, 48, .inl (aI (va_up (fl) (n) (lo))))), (s4, .inl (cI, 48, .inl (aI (va_up (fh) (n) (hi))))), (s5, .inl (cI, 48, .inl (aI (ft)))), (s6, .inl (cI, 48, .inl (aI (fc)))), (s7, .inl (cL, 5, .inr (.inl (aB (va_up (go) (d).toNat (va_up ((go) (d).toNat) (n) (true)))))))] := hD
  refine lv_aload_n hx hb d_st_addStop_57 rfl (lv_at hl 1 rfl) ?_
  refine lv_dup hx hb d_st_addStop_58 rfl ?_
  refine va_get (D := (dC, dI)) (ci := 3) (v := .int (iI (((n : Nat) : Int)))) (C := "OrganConsole$Stops") (T := T_st) (N := 9) hx hb htb in_st hown hK hP 0 rfl rfl 7 (by decide) (htb _ tw_109) (fun _ h9 => h9) rfl d_st_addStop_59 ?_
  refine lv_iconst (v := iI (1)) hx hb d_st_addStop_62 rfl ?_
  refine xi_add hx hb d_st_addStop_63 ?_
  refine va_put (D := (dC, dI)) (ci := 3) (v := .int (iI ((((n : Nat) : Int)) + (1)))) (ty := .int) (C := "OrganConsole$Stops") (T := T_st) (N := 9) hx hb htb in_st ty_st ty_st_ok nm_st hown hK hP hD hS 0 rfl rfl 7 (by decide) (htb _ tw_109) (fun _ h9 => h9) rfl (by decide +kernel) rfl rfl (Nat.le_of_ble_eq_true rfl) d_st_addStop_64 (fun H locs hP hD hS => ?_)
  have hP : va_P (dC, dI) vwCl [(s0, .inr (3, [.ref (s1), .ref (s2), .ref (s3), .ref (s4), .ref (s5), .ref (s6), .ref (s7), .int (iI ((((n : Nat) : Int)) + (1))), .long (bL (kn))])), (s1, .inl (cI, 48, .inl (aI (va_up (fd) (n) (d))))), (s2, .inl (cI, 48, .inl (aI (va_up (fs) (n) (sh))))), (s3, .inl (cI, 48, .inl (aI (va_up (fl) (n) (lo))))), (s4, .inl (cI, 48, .inl (aI (va_up (fh) (n) (hi))))), (s5, .inl (cI, 48, .inl (aI (ft)))), (s6, .inl (cI, 48, .inl (aI (fc)))), (s7, .inl (cL, 5, .inr (.inl (aB (va_up (go) (d).toNat (va_up ((go) (d).toNat) (n) (true)))))))] H := hP
  have hD : va_D A [(s0, .inr (3, [.ref (s1), .ref (s2), .ref (s3), .ref (s4), .ref (s5), .ref (s6), .ref (s7), .int (iI ((((n : Nat) : Int)) + (1))), .long (bL (kn))])), (s1, .inl (cI, 48, .inl (aI (va_up (fd) (n) (d))))), (s2, .inl (cI, 48, .inl (aI (va_up (fs) (n) (sh))))), (s3, .inl (cI, 48, .inl (aI (va_up (fl) (n) (lo))))), (s4, .inl (cI, 48, .inl (aI (va_up (fh) (n) (hi))))), (s5, .inl (cI, 48, .inl (aI (ft)))), (s6, .inl (cI, 48, .inl (aI (fc)))), (s7, .inl (cL, 5, .inr (.inl (aB (va_up (go) (d).toNat (va_up ((go) (d).toNat) (n) (true)))))))] := hD
  refine lv_iload hx hb d_st_addStop_67 (lv_at hl 0 rfl) ?_
  have q_1 : iI ((((n : Nat) : Int)) + (1)) = iI (((n + 1 : Nat) : Int)) := congrArg iI (by omega)
  have hP : va_P (dC, dI) vwCl [(s0, .inr (3, [.ref (s1), .ref (s2), .ref (s3), .ref (s4), .ref (s5), .ref (s6), .ref (s7), .int (iI (((n + 1 : Nat) : Int))), .long (bL (kn))])), (s1, .inl (cI, 48, .inl (aI (va_up fd n d)))), (s2, .inl (cI, 48, .inl (aI (va_up fs n sh)))), (s3, .inl (cI, 48, .inl (aI (va_up fl n lo)))), (s4, .inl (cI, 48, .inl (aI (va_up fh n hi)))), (s5, .inl (cI, 48, .inl (aI (ft)))), (s6, .inl (cI, 48, .inl (aI (fc)))), (s7, .inl (cL, 5, .inr (.inl (aB (va_up go d.toNat (va_up (go d.toNat) n true))))))] H := P_eq hP (congr (congrArg List.cons (congrArg (fun z9 => ((s0 : Nat), (Sum.inr (3, z9) : va_E))) (show ([.ref (s1), .ref (s2), .ref (s3), .ref (s4), .ref (s5), .ref (s6), .ref (s7), .int (iI ((((n : Nat) : Int)) + (1))), .long (bL (kn))] : List Value) = [.ref (s1), .ref (s2), .ref (s3), .ref (s4), .ref (s5), .ref (s6), .ref (s7), .int (iI (((n + 1 : Nat) : Int))), .long (bL (kn))] from congrArg (List.cons _) (congrArg (List.cons _) (congrArg (List.cons _) (congrArg (List.cons _) (congrArg (List.cons _) (congrArg (List.cons _) (congrArg (List.cons _) (congr (congrArg List.cons (congrArg Value.int q_1)) (congrArg (List.cons _) (rfl)))))))))))) (congrArg (List.cons _) (congrArg (List.cons _) (congrArg (List.cons _) (congrArg (List.cons _) (congrArg (List.cons _) (congrArg (List.cons _) (congrArg (List.cons _) (rfl)))))))))
  exact W.iret (v := iI (((n : Nat) : Int))) hx hb hr (fun t ht hW => ⟨rfl, by rw [ht]; exact hP, hS.F ht⟩) hS.2.2 d_st_addStop_69

set_option maxHeartbeats 200000 in
set_option maxRecDepth 100000 in
theorem c_st_recall (l : Launch) (dC : Nat → ClassId) (dI : Nat → Nat → Nat) (cI cL cZ : ClassId) (sz : Nat) (s0 s1 s2 s3 s4 s5 s6 s7 : Nat) (fd fs fl fh ft fc : Nat → Int) (go : Nat → Nat → Bool) (n : Nat) (kn : Nat → Bool) (hn : n ≤ 48) (hft : ∀ s, 0 ≤ ft s ∧ ft s ≤ 3) (f g : Nat → Bool) : Met l y_st_recall (Cond.code y_st_recall prog_5_method_5_code 8 (some .int) :: TB) ({ frames := 1, cells := 0, slots := 0, locals := 24 }) (va_Pc [.ref (s0), .long (bL (f)), .long (bL (g))] (PS dC dI [(s0, .inr (3, [.ref (s1), .ref (s2), .ref (s3), .ref (s4), .ref (s5), .ref (s6), .ref (s7), .int (iI (((n : Nat) : Int))), .long (bL (kn))])), (s1, .inl (cI, 48, .inl (aI (fd)))), (s2, .inl (cI, 48, .inl (aI (fs)))), (s3, .inl (cI, 48, .inl (aI (fl)))), (s4, .inl (cI, 48, .inl (aI (fh)))), (s5, .inl (cI, 48, .inl (aI (ft)))), (s6, .inl (cI, 48, .inl (aI (fc)))), (s7, .inl (cL, 5, .inr (.inl (aB (go)))))] [(cI, .int), (cL, .long), (cZ, .boolean)] sz)) (QW dC dI (some (.int (iI (((cnt (un kn f g) 64 : Nat) : Int))))) [(s0, .inr (3, [.ref (s1), .ref (s2), .ref (s3), .ref (s4), .ref (s5), .ref (s6), .ref (s7), .int (iI (((n : Nat) : Int))), .long (bL (kn))])), (s1, .inl (cI, 48, .inl (aI (fd)))), (s2, .inl (cI, 48, .inl (aI (fs)))), (s3, .inl (cI, 48, .inl (aI (fl)))), (s4, .inl (cI, 48, .inl (aI (fh)))), (s5, .inl (cI, 48, .inl (aI (rcf ft g (un kn f g) n)))), (s6, .inl (cI, 48, .inl (aI (fc)))), (s7, .inl (cL, 5, .inr (.inl (aB (go)))))] (va_A [(s0, .inr (3, [.ref (s1), .ref (s2), .ref (s3), .ref (s4), .ref (s5), .ref (s6), .ref (s7), .int (iI (((n : Nat) : Int))), .long (bL (kn))])), (s1, .inl (cI, 48, .inl (aI (fd)))), (s2, .inl (cI, 48, .inl (aI (fs)))), (s3, .inl (cI, 48, .inl (aI (fl)))), (s4, .inl (cI, 48, .inl (aI (fh)))), (s5, .inl (cI, 48, .inl (aI (ft)))), (s6, .inl (cI, 48, .inl (aI (fc)))), (s7, .inl (cL, 5, .inr (.inl (aB (go)))))] sz)) 0 0 (va_A [(s0, .inr (3, [.ref (s1), .ref (s2), .ref (s3), .ref (s4), .ref (s5), .ref (s6), .ref (s7), .int (iI (((n : Nat) : Int))), .long (bL (kn))])), (s1, .inl (cI, 48, .inl (aI (fd)))), (s2, .inl (cI, 48, .inl (aI (fs)))), (s3, .inl (cI, 48, .inl (aI (fl)))), (s4, .inl (cI, 48, .inl (aI (fh)))), (s5, .inl (cI, 48, .inl (aI (ft)))), (s6, .inl (cI, 48, .inl (aI (fc)))), (s7, .inl (cL, 5, .inr (.inl (aB (go)))))] sz) := by
  refine Met.ofW (cc := prog_5_method_5_code) (maxL := 8) (ret := (some .int)) (by decide) rfl ?_
  intro p e s m args below meth c s₁ B hml hv
  obtain ⟨ha, hsz, hP, hK, hD0, hN⟩ := hv
  have hx := B.exec
  have hb := B.bytes
  have hr := B.returns
  have htb : ∀ w ∈ TB, w.before args s = true := fun w h => atoms_spec (ws := Cond.code y_st_recall prog_5_method_5_code 8 (some .int) :: TB) B.pre w (List.mem_cons_of_mem _ h)
  have hown : s.vm.findClass "OrganConsole$Stops" = some m.cls := findClass_of_methodNamed B.named
  have hlocks := B.notSynchronized
  subst hsz
  have hD := hD0.self (sz := s.heap.size)
  generalize hAe : va_A [(s0, .inr (3, [.ref (s1), .ref (s2), .ref (s3), .ref (s4), .ref (s5), .ref (s6), .ref (s7), .int (iI (((n : Nat) : Int))), .long (bL (kn))])), (s1, .inl (cI, 48, .inl (aI (fd)))), (s2, .inl (cI, 48, .inl (aI (fs)))), (s3, .inl (cI, 48, .inl (aI (fl)))), (s4, .inl (cI, 48, .inl (aI (fh)))), (s5, .inl (cI, 48, .inl (aI (ft)))), (s6, .inl (cI, 48, .inl (aI (fc)))), (s7, .inl (cL, 5, .inr (.inl (aB (go)))))] s.heap.size = A at hD ⊢
  have hA : ∀ q : Nat, s.heap.size ≤ q → A q := fun q h => by rw [← hAe]; exact Or.inr h
  have hS : va_S A s.heap s.heap [] := va_S.rf
  have hl := lv_entry ([.ref (s0), .long (bL (f)), .long (bL (g))]) (n := 8) (Nat.le_of_ble_eq_true rfl)
  refine W.eq (g2 := F0 m 0 _ []) (by rw [ha]; exact lg_entry_eq m ([.ref (s0), .long (bL (f)), .long (bL (g))]) 8) ?_
  generalize (lg_sl ([.ref (s0), .long (bL (f)), .long (bL (g))]) ++ List.replicate (8 - (lg_sl ([.ref (s0), .long (bL (f)), .long (bL (g))])).length) Slot.unset).toArray = ls at hl ⊢
  have hl : lv_has ls 8 [(0, .ref (s0)), (1, .long (bL (f))), (3, .long (bL (g)))] := hl
  refine lv_aload_n hx hb d_st_recall_0 rfl (lv_at hl 0 rfl) ?_
  refine lv_lload_n hx hb d_st_recall_1 rfl (lv_at hl 1 rfl) ?_
  refine lv_lload_n hx hb d_st_recall_2 rfl (lv_at hl 2 rfl) ?_
  refine pcV hx hb hml hown htb (c_st_unlike l dC dI cI cL cZ s0 s1 s2 s3 s4 s5 s6 s7 fd fs fl fh ft fc go n kn hn (f) (g)) tw_500 tw_501 tw_502 tw_36 tw_503 2 (by decide +kernel) rfl rfl ⟨Nat.le_of_ble_eq_true rfl, Nat.le_of_ble_eq_true rfl⟩ ⟨Nat.zero_le _, Nat.zero_le _⟩ [.long (bL (f)), .long (bL (g))] (PW_V (q0 := 0) (ci := 3) (ws := [(s0, .inr (3, [.ref (s1), .ref (s2), .ref (s3), .ref (s4), .ref (s5), .ref (s6), .ref (s7), .int (iI (((n : Nat) : Int))), .long (bL (kn))])), (s1, .inl (cI, 48, .inl (aI (fd)))), (s2, .inl (cI, 48, .inl (aI (fs)))), (s3, .inl (cI, 48, .inl (aI (fl)))), (s4, .inl (cI, 48, .inl (aI (fh)))), (s5, .inl (cI, 48, .inl (aI (ft)))), (s6, .inl (cI, 48, .inl (aI (fc)))), (s7, .inl (cL, 5, .inr (.inl (aB (go)))))]) hP (hP.sub [0, 1, 2, 3, 4, 5, 6, 7] rfl) hK rfl rfl) rfl hl.1 rfl (Nat.le_of_ble_eq_true rfl) d_st_recall_3 ?_
  refine lv_lstore hx hb d_st_recall_6 hl (by decide) rfl (fun ls hl => ?_)
  have hl : lv_has ls 8 [(5, .long (bL (un (kn) (f) (g)))), (0, .ref (s0)), (1, .long (bL (f))), (3, .long (bL (g)))] := hl
  refine lv_iconst (v := iI (0)) hx hb d_st_recall_8 rfl ?_
  refine lv_istore hx hb d_st_recall_9 hl (by decide) rfl (fun ls hl => ?_)
  have hl : lv_has ls 8 [(7, .int (iI (0))), (5, .long (bL (un (kn) (f) (g)))), (0, .ref (s0)), (1, .long (bL (f))), (3, .long (bL (g)))] := hl
  have q_1 : iI (0) = iI ((((0) : Nat) : Int)) := congrArg iI (by omega)
  have hl : lv_has ls 8 [(7, .int (iI ((((0) : Nat) : Int)))), (5, .long (bL (un (kn) (f) (g)))), (0, .ref (s0)), (1, .long (bL (f))), (3, .long (bL (g)))] := lv_eq9 hl (congr (congrArg List.cons (congrArg (fun z => ((7 : Nat), Value.int z)) q_1)) (congr (congrArg List.cons (Eq.refl ((5 : Nat), Value.long (bL (un (kn) (f) (g)))))) (congr (congrArg List.cons (Eq.refl ((0 : Nat), Value.ref (s0)))) (congr (congrArg List.cons (Eq.refl ((1 : Nat), Value.long (bL (f))))) (congr (congrArg List.cons (Eq.refl ((3 : Nat), Value.long (bL (g))))) (rfl))))))
  have q_2 : (ft) = (rcf ft g (un kn f g) (0)) := by first | exact rcf_0 _ _ _ | exact rcf_3 (by assumption) (by assumption) | exact rcf_z (by assumption) (by assumption) | exact rcf_no (by assumption)
  have hP : va_P (dC, dI) vwCl [(s0, .inr (3, [.ref (s1), .ref (s2), .ref (s3), .ref (s4), .ref (s5), .ref (s6), .ref (s7), .int (iI (((n : Nat) : Int))), .long (bL (kn))])), (s1, .inl (cI, 48, .inl (aI (fd)))), (s2, .inl (cI, 48, .inl (aI (fs)))), (s3, .inl (cI, 48, .inl (aI (fl)))), (s4, .inl (cI, 48, .inl (aI (fh)))), (s5, .inl (cI, 48, .inl (aI (rcf ft g (un kn f g) (0))))), (s6, .inl (cI, 48, .inl (aI (fc)))), (s7, .inl (cL, 5, .inr (.inl (aB (go)))))] s.heap := P_eq hP (congrArg (List.cons _) (congrArg (List.cons _) (congrArg (List.cons _) (congrArg (List.cons _) (congrArg (List.cons _) (congr (congrArg List.cons (congrArg (fun z9 => ((s5 : Nat), (Sum.inl (cI, 48, Sum.inl (aI z9)) : va_E))) q_2)) (congrArg (List.cons _) (congrArg (List.cons _) (rfl)))))))))
  have hD : va_D A [(s0, .inr (3, [.ref (s1), .ref (s2), .ref (s3), .ref (s4), .ref (s5), .ref (s6), .ref (s7), .int (iI (((n : Nat) : Int))), .long (bL (kn))])), (s1, .inl (cI, 48, .inl (aI (fd)))), (s2, .inl (cI, 48, .inl (aI (fs)))), (s3, .inl (cI, 48, .inl (aI (fl)))), (s4, .inl (cI, 48, .inl (aI (fh)))), (s5, .inl (cI, 48, .inl (aI (rcf ft g (un kn f g) (0))))), (s6, .inl (cI, 48, .inl (aI (fc)))), (s7, .inl (cL, 5, .inr (.inl (aB (go)))))] := D_same (w1 := [(s0, .inr (3, [.ref (s1), .ref (s2), .ref (s3), .ref (s4), .ref (s5), .ref (s6), .ref (s7), .int (iI (((n : Nat) : Int))), .long (bL (kn))])), (s1, .inl (cI, 48, .inl (aI (fd)))), (s2, .inl (cI, 48, .inl (aI (fs)))), (s3, .inl (cI, 48, .inl (aI (fl)))), (s4, .inl (cI, 48, .inl (aI (fh)))), (s5, .inl (cI, 48, .inl (aI (ft)))), (s6, .inl (cI, 48, .inl (aI (fc)))), (s7, .inl (cL, 5, .inr (.inl (aB (go)))))]) rfl hD
  have L11 : ∀ (fu : Nat) (k : Nat) (H : Heap) (locs : List Loc), n - k < fu → k ≤ n → va_P (dC, dI) vwCl [(s0, .inr (3, [.ref (s1), .ref (s2), .ref (s3), .ref (s4), .ref (s5), .ref (s6), .ref (s7), .int (iI (((n : Nat) : Int))), .long (bL (kn))])), (s1, .inl (cI, 48, .inl (aI (fd)))), (s2, .inl (cI, 48, .inl (aI (fs)))), (s3, .inl (cI, 48, .inl (aI (fl)))), (s4, .inl (cI, 48, .inl (aI (fh)))), (s5, .inl (cI, 48, .inl (aI (rcf ft g (un kn f g) k)))), (s6, .inl (cI, 48, .inl (aI (fc)))), (s7, .inl (cL, 5, .inr (.inl (aB (go)))))] H → va_D A [(s0, .inr (3, [.ref (s1), .ref (s2), .ref (s3), .ref (s4), .ref (s5), .ref (s6), .ref (s7), .int (iI (((n : Nat) : Int))), .long (bL (kn))])), (s1, .inl (cI, 48, .inl (aI (fd)))), (s2, .inl (cI, 48, .inl (aI (fs)))), (s3, .inl (cI, 48, .inl (aI (fl)))), (s4, .inl (cI, 48, .inl (aI (fh)))), (s5, .inl (cI, 48, .inl (aI (rcf ft g (un kn f g) k)))), (s6, .inl (cI, 48, .inl (aI (fc)))), (s7, .inl (cL, 5, .inr (.inl (aB (go)))))] → va_S A s.heap H locs → ∀ ls : Array Slot, lv_has ls 8 [(7, .int (iI (((k : Nat) : Int)))), (5, .long (bL (un kn f g))), (0, .ref (s0)), (1, .long (bL (f))), (3, .long (bL (g)))] → W p l e (headSpec (Cond.code y_st_recall prog_5_method_5_code 8 (some .int) :: TB) ({ frames := 1, cells := 0, slots := 0, locals := 24 })).room s m args below meth c H locs 0 0 (MQ below (QW dC dI (some (.int (iI (((cnt (un kn f g) 64 : Nat) : Int))))) [(s0, .inr (3, [.ref (s1), .ref (s2), .ref (s3), .ref (s4), .ref (s5), .ref (s6), .ref (s7), .int (iI (((n : Nat) : Int))), .long (bL (kn))])), (s1, .inl (cI, 48, .inl (aI (fd)))), (s2, .inl (cI, 48, .inl (aI (fs)))), (s3, .inl (cI, 48, .inl (aI (fl)))), (s4, .inl (cI, 48, .inl (aI (fh)))), (s5, .inl (cI, 48, .inl (aI (rcf ft g (un kn f g) n)))), (s6, .inl (cI, 48, .inl (aI (fc)))), (s7, .inl (cL, 5, .inr (.inl (aB (go)))))] A) args s 0 0 A) (F0 m 11 ls []) := by
    intro fu
    induction fu with
    | zero => intro k H locs hfu; exact absurd hfu (Nat.not_lt_zero _)
    | succ fu ih11 =>
      intro k H locs hfu hk hP hD hS ls hl
      refine lv_iload hx hb d_st_recall_11 (lv_at hl 0 rfl) ?_
      refine lv_aload_n hx hb d_st_recall_13 rfl (lv_at hl 2 rfl) ?_
      refine va_get (D := (dC, dI)) (ci := 3) (v := .int (iI (((n : Nat) : Int)))) (C := "OrganConsole$Stops") (T := T_st) (N := 9) hx hb htb in_st hown hK hP 0 rfl rfl 7 (by decide) (htb _ tw_109) (fun _ h9 => h9) rfl d_st_recall_14 ?_
      refine xi_icmp_ge (tgt := 57) hx hb ⟨by omega, by omega⟩ ⟨by omega, by omega⟩ d_st_recall_17 (by decide) (fun u_3 => ?_) (fun u_3 => ?_)
      · skip
        refine lv_lload hx hb d_st_recall_57 (lv_at hl 1 rfl) ?_
        refine pcS hx hb hml hown htb (c_jl_bitCount' l (un kn f g)) tw_505 tw_506 tw_47 tw_507 1 (by decide +kernel) rfl rfl ⟨Nat.le_of_ble_eq_true rfl, Nat.le_of_ble_eq_true rfl⟩ ⟨Nat.zero_le _, Nat.zero_le _⟩ [.long (bL (un kn f g))] ⟨fun _ _ _ _ q => q, fun U _ _ => ⟨rfl, trivial⟩⟩ rfl hl.1 rfl (Nat.le_of_ble_eq_true rfl) d_st_recall_59 ?_
        have : n = k := by omega
        subst this
        exact W.iret (v := iI (((cnt (un kn f g) 64 : Nat) : Int))) hx hb hr (fun t ht hW => ⟨rfl, by rw [ht]; exact hP, hS.F ht⟩) hS.2.2 d_st_recall_62
      · skip
        refine lv_lload_n hx hb d_st_recall_20 rfl (lv_at hl 4 rfl) ?_
        refine lv_iload hx hb d_st_recall_21 (lv_at hl 0 rfl) ?_
        refine pcN hx hb hml hown htb (c_oc_has l (g) (k) _ (by omega) (by omega)) (nb_504 hN) tw_428 tw_34 tw_429 2 (by decide +kernel) rfl rfl ⟨Nat.le_of_ble_eq_true rfl, Nat.le_of_ble_eq_true rfl⟩ ⟨Nat.zero_le _, Nat.zero_le _⟩ [.long (bL (g)), .int (iI (((k : Nat) : Int)))] ⟨fun _ _ _ _ q => q, fun U _ _ => ⟨rfl, trivial⟩⟩ rfl hl.1 rfl (Nat.le_of_ble_eq_true rfl) d_st_recall_23 ?_
        refine xz_if_eq (tgt := 51) hx hb d_st_recall_26 (by decide) (fun u_4 => ?_) (fun u_4 => ?_)
        · skip
          refine lv_iinc (k := 0) (v := iI (((k : Nat) : Int) + 1)) hx hb d_st_recall_51 hl rfl (iI_add _ _) (by decide) rfl (fun ls hl => ?_)
          have hl : lv_has ls 8 [(7, .int (iI (((k : Nat) : Int) + 1))), (5, .long (bL (un kn f g))), (0, .ref (s0)), (1, .long (bL (f))), (3, .long (bL (g)))] := hl
          refine lv_goto (tgt := 11) hx hb d_st_recall_54 (by decide) ?_
          have q_5 : iI (((k : Nat) : Int) + 1) = iI ((((k + 1) : Nat) : Int)) := congrArg iI (by omega)
          have hl : lv_has ls 8 [(7, .int (iI ((((k + 1) : Nat) : Int)))), (5, .long (bL (un kn f g))), (0, .ref (s0)), (1, .long (bL (f))), (3, .long (bL (g)))] := lv_eq9 hl (congr (congrArg List.cons (congrArg (fun z => ((7 : Nat), Value.int z)) q_5)) (congr (congrArg List.cons (Eq.refl ((5 : Nat), Value.long (bL (un kn f g))))) (congr (congrArg List.cons (Eq.refl ((0 : Nat), Value.ref (s0)))) (congr (congrArg List.cons (Eq.refl ((1 : Nat), Value.long (bL (f))))) (congr (congrArg List.cons (Eq.refl ((3 : Nat), Value.long (bL (g))))) (rfl))))))
          have q_6 : (rcf ft g (un kn f g) k) = (rcf ft g (un kn f g) (k + 1)) := by first | exact rcf_0 _ _ _ | exact rcf_3 (by assumption) (by assumption) | exact rcf_z (by assumption) (by assumption) | exact rcf_no (by assumption)
          have hP : va_P (dC, dI) vwCl [(s0, .inr (3, [.ref (s1), .ref (s2), .ref (s3), .ref (s4), .ref (s5), .ref (s6), .ref (s7), .int (iI (((n : Nat) : Int))), .long (bL (kn))])), (s1, .inl (cI, 48, .inl (aI (fd)))), (s2, .inl (cI, 48, .inl (aI (fs)))), (s3, .inl (cI, 48, .inl (aI (fl)))), (s4, .inl (cI, 48, .inl (aI (fh)))), (s5, .inl (cI, 48, .inl (aI (rcf ft g (un kn f g) (k + 1))))), (s6, .inl (cI, 48, .inl (aI (fc)))), (s7, .inl (cL, 5, .inr (.inl (aB (go)))))] H := P_eq hP (congrArg (List.cons _) (congrArg (List.cons _) (congrArg (List.cons _) (congrArg (List.cons _) (congrArg (List.cons _) (congr (congrArg List.cons (congrArg (fun z9 => ((s5 : Nat), (Sum.inl (cI, 48, Sum.inl (aI z9)) : va_E))) q_6)) (congrArg (List.cons _) (congrArg (List.cons _) (rfl)))))))))
          have hD : va_D A [(s0, .inr (3, [.ref (s1), .ref (s2), .ref (s3), .ref (s4), .ref (s5), .ref (s6), .ref (s7), .int (iI (((n : Nat) : Int))), .long (bL (kn))])), (s1, .inl (cI, 48, .inl (aI (fd)))), (s2, .inl (cI, 48, .inl (aI (fs)))), (s3, .inl (cI, 48, .inl (aI (fl)))), (s4, .inl (cI, 48, .inl (aI (fh)))), (s5, .inl (cI, 48, .inl (aI (rcf ft g (un kn f g) (k + 1))))), (s6, .inl (cI, 48, .inl (aI (fc)))), (s7, .inl (cL, 5, .inr (.inl (aB (go)))))] := D_same (w1 := [(s0, .inr (3, [.ref (s1), .ref (s2), .ref (s3), .ref (s4), .ref (s5), .ref (s6), .ref (s7), .int (iI (((n : Nat) : Int))), .long (bL (kn))])), (s1, .inl (cI, 48, .inl (aI (fd)))), (s2, .inl (cI, 48, .inl (aI (fs)))), (s3, .inl (cI, 48, .inl (aI (fl)))), (s4, .inl (cI, 48, .inl (aI (fh)))), (s5, .inl (cI, 48, .inl (aI (rcf ft g (un kn f g) k)))), (s6, .inl (cI, 48, .inl (aI (fc)))), (s7, .inl (cL, 5, .inr (.inl (aB (go)))))]) rfl hD
          exact ih11 (k + 1) H locs (by omega) (by omega) hP hD hS _ (lv_sub hl [0, 1, 2, 3, 4] rfl)
        · skip
          refine lv_aload_n hx hb d_st_recall_29 rfl (lv_at hl 2 rfl) ?_
          refine va_get (D := (dC, dI)) (ci := 3) (v := .ref (s5)) (C := "OrganConsole$Stops") (T := T_st) (N := 9) hx hb htb in_st hown hK hP 0 rfl rfl 4 (by decide) (htb _ tw_103) (fun _ h9 => h9) rfl d_st_recall_30 ?_
          refine lv_iload hx hb d_st_recall_33 (lv_at hl 0 rfl) ?_
          refine lv_lload hx hb d_st_recall_35 (lv_at hl 1 rfl) ?_
          refine lv_iload hx hb d_st_recall_37 (lv_at hl 0 rfl) ?_
          refine pcN hx hb hml hown htb (c_oc_has l (un kn f g) (k) _ (by omega) (by omega)) (nb_504 hN) tw_428 tw_34 tw_429 2 (by decide +kernel) rfl rfl ⟨Nat.le_of_ble_eq_true rfl, Nat.le_of_ble_eq_true rfl⟩ ⟨Nat.zero_le _, Nat.zero_le _⟩ [.long (bL (un kn f g)), .int (iI (((k : Nat) : Int)))] ⟨fun _ _ _ _ q => q, fun U _ _ => ⟨rfl, trivial⟩⟩ rfl hl.1 rfl (Nat.le_of_ble_eq_true rfl) d_st_recall_39 ?_
          refine xz_if_eq (tgt := 49) hx hb d_st_recall_42 (by decide) (fun u_7 => ?_) (fun u_7 => ?_)
          · skip
            refine lv_iconst (v := iI (0)) hx hb d_st_recall_49 rfl ?_
            refine xa_iast (v := 0) hx hb hK hP hD hS 5 0 rfl rfl (k) (by omega) (by omega) (by decide) d_st_recall_50 (fun H locs hP hD hS => ?_)
            have hP : va_P (dC, dI) vwCl [(s0, .inr (3, [.ref (s1), .ref (s2), .ref (s3), .ref (s4), .ref (s5), .ref (s6), .ref (s7), .int (iI (((n : Nat) : Int))), .long (bL (kn))])), (s1, .inl (cI, 48, .inl (aI (fd)))), (s2, .inl (cI, 48, .inl (aI (fs)))), (s3, .inl (cI, 48, .inl (aI (fl)))), (s4, .inl (cI, 48, .inl (aI (fh)))), (s5, .inl (cI, 48, .inl (aI (va_up (rcf ft g (un kn f g) k) (k) (0))))), (s6, .inl (cI, 48, .inl (aI (fc)))), (s7, .inl (cL, 5, .inr (.inl (aB (go)))))] H := hP
            have hD : va_D A [(s0, .inr (3, [.ref (s1), .ref (s2), .ref (s3), .ref (s4), .ref (s5), .ref (s6), .ref (s7), .int (iI (((n : Nat) : Int))), .long (bL (kn))])), (s1, .inl (cI, 48, .inl (aI (fd)))), (s2, .inl (cI, 48, .inl (aI (fs)))), (s3, .inl (cI, 48, .inl (aI (fl)))), (s4, .inl (cI, 48, .inl (aI (fh)))), (s5, .inl (cI, 48, .inl (aI (va_up (rcf ft g (un kn f g) k) (k) (0))))), (s6, .inl (cI, 48, .inl (aI (fc)))), (s7, .inl (cL, 5, .inr (.inl (aB (go)))))] := hD
            refine lv_iinc (k := 0) (v := iI (((k : Nat) : Int) + 1)) hx hb d_st_recall_51 hl rfl (iI_add _ _) (by decide) rfl (fun ls hl => ?_)
            have hl : lv_has ls 8 [(7, .int (iI (((k : Nat) : Int) + 1))), (5, .long (bL (un kn f g))), (0, .ref (s0)), (1, .long (bL (f))), (3, .long (bL (g)))] := hl
            refine lv_goto (tgt := 11) hx hb d_st_recall_54 (by decide) ?_
            have q_8 : iI (((k : Nat) : Int) + 1) = iI ((((k + 1) : Nat) : Int)) := congrArg iI (by omega)
            have hl : lv_has ls 8 [(7, .int (iI ((((k + 1) : Nat) : Int)))), (5, .long (bL (un kn f g))), (0, .ref (s0)), (1, .long (bL (f))), (3, .long (bL (g)))] := lv_eq9 hl (congr (congrArg List.cons (congrArg (fun z => ((7 : Nat), Value.int z)) q_8)) (congr (congrArg List.cons (Eq.refl ((5 : Nat), Value.long (bL (un kn f g))))) (congr (congrArg List.cons (Eq.refl ((0 : Nat), Value.ref (s0)))) (congr (congrArg List.cons (Eq.refl ((1 : Nat), Value.long (bL (f))))) (congr (congrArg List.cons (Eq.refl ((3 : Nat), Value.long (bL (g))))) (rfl))))))
            have q_9 : (va_up (rcf ft g (un kn f g) k) (k) (0)) = (rcf ft g (un kn f g) (k + 1)) := by first | exact rcf_0 _ _ _ | exact rcf_3 (by assumption) (by assumption) | exact rcf_z (by assumption) (by assumption) | exact rcf_no (by assumption)
            have hP : va_P (dC, dI) vwCl [(s0, .inr (3, [.ref (s1), .ref (s2), .ref (s3), .ref (s4), .ref (s5), .ref (s6), .ref (s7), .int (iI (((n : Nat) : Int))), .long (bL (kn))])), (s1, .inl (cI, 48, .inl (aI (fd)))), (s2, .inl (cI, 48, .inl (aI (fs)))), (s3, .inl (cI, 48, .inl (aI (fl)))), (s4, .inl (cI, 48, .inl (aI (fh)))), (s5, .inl (cI, 48, .inl (aI (rcf ft g (un kn f g) (k + 1))))), (s6, .inl (cI, 48, .inl (aI (fc)))), (s7, .inl (cL, 5, .inr (.inl (aB (go)))))] H := P_eq hP (congrArg (List.cons _) (congrArg (List.cons _) (congrArg (List.cons _) (congrArg (List.cons _) (congrArg (List.cons _) (congr (congrArg List.cons (congrArg (fun z9 => ((s5 : Nat), (Sum.inl (cI, 48, Sum.inl (aI z9)) : va_E))) q_9)) (congrArg (List.cons _) (congrArg (List.cons _) (rfl)))))))))
            have hD : va_D A [(s0, .inr (3, [.ref (s1), .ref (s2), .ref (s3), .ref (s4), .ref (s5), .ref (s6), .ref (s7), .int (iI (((n : Nat) : Int))), .long (bL (kn))])), (s1, .inl (cI, 48, .inl (aI (fd)))), (s2, .inl (cI, 48, .inl (aI (fs)))), (s3, .inl (cI, 48, .inl (aI (fl)))), (s4, .inl (cI, 48, .inl (aI (fh)))), (s5, .inl (cI, 48, .inl (aI (rcf ft g (un kn f g) (k + 1))))), (s6, .inl (cI, 48, .inl (aI (fc)))), (s7, .inl (cL, 5, .inr (.inl (aB (go)))))] := D_same (w1 := [(s0, .inr (3, [.ref (s1), .ref (s2), .ref (s3), .ref (s4), .ref (s5), .ref (s6), .ref (s7), .int (iI (((n : Nat) : Int))), .long (bL (kn))])), (s1, .inl (cI, 48, .inl (aI (fd)))), (s2, .inl (cI, 48, .inl (aI (fs)))), (s3, .inl (cI, 48, .inl (aI (fl)))), (s4, .inl (cI, 48, .inl (aI (fh)))), (s5, .inl (cI, 48, .inl (aI (va_up (rcf ft g (un kn f g) k) (k) (0))))), (s6, .inl (cI, 48, .inl (aI (fc)))), (s7, .inl (cL, 5, .inr (.inl (aB (go)))))]) rfl hD
            exact ih11 (k + 1) H locs (by omega) (by omega) hP hD hS _ (lv_sub hl [0, 1, 2, 3, 4] rfl)
          · skip
            refine lv_iconst (v := iI (3)) hx hb d_st_recall_45 rfl ?_
            refine lv_goto (tgt := 50) hx hb d_st_recall_46 (by decide) ?_
            refine xa_iast (v := 3) hx hb hK hP hD hS 5 0 rfl rfl (k) (by omega) (by omega) (by decide) d_st_recall_50 (fun H locs hP hD hS => ?_)
            have hP : va_P (dC, dI) vwCl [(s0, .inr (3, [.ref (s1), .ref (s2), .ref (s3), .ref (s4), .ref (s5), .ref (s6), .ref (s7), .int (iI (((n : Nat) : Int))), .long (bL (kn))])), (s1, .inl (cI, 48, .inl (aI (fd)))), (s2, .inl (cI, 48, .inl (aI (fs)))), (s3, .inl (cI, 48, .inl (aI (fl)))), (s4, .inl (cI, 48, .inl (aI (fh)))), (s5, .inl (cI, 48, .inl (aI (va_up (rcf ft g (un kn f g) k) (k) (3))))), (s6, .inl (cI, 48, .inl (aI (fc)))), (s7, .inl (cL, 5, .inr (.inl (aB (go)))))] H := hP
            have hD : va_D A [(s0, .inr (3, [.ref (s1), .ref (s2), .ref (s3), .ref (s4), .ref (s5), .ref (s6), .ref (s7), .int (iI (((n : Nat) : Int))), .long (bL (kn))])), (s1, .inl (cI, 48, .inl (aI (fd)))), (s2, .inl (cI, 48, .inl (aI (fs)))), (s3, .inl (cI, 48, .inl (aI (fl)))), (s4, .inl (cI, 48, .inl (aI (fh)))), (s5, .inl (cI, 48, .inl (aI (va_up (rcf ft g (un kn f g) k) (k) (3))))), (s6, .inl (cI, 48, .inl (aI (fc)))), (s7, .inl (cL, 5, .inr (.inl (aB (go)))))] := hD
            refine lv_iinc (k := 0) (v := iI (((k : Nat) : Int) + 1)) hx hb d_st_recall_51 hl rfl (iI_add _ _) (by decide) rfl (fun ls hl => ?_)
            have hl : lv_has ls 8 [(7, .int (iI (((k : Nat) : Int) + 1))), (5, .long (bL (un kn f g))), (0, .ref (s0)), (1, .long (bL (f))), (3, .long (bL (g)))] := hl
            refine lv_goto (tgt := 11) hx hb d_st_recall_54 (by decide) ?_
            have q_10 : iI (((k : Nat) : Int) + 1) = iI ((((k + 1) : Nat) : Int)) := congrArg iI (by omega)
            have hl : lv_has ls 8 [(7, .int (iI ((((k + 1) : Nat) : Int)))), (5, .long (bL (un kn f g))), (0, .ref (s0)), (1, .long (bL (f))), (3, .long (bL (g)))] := lv_eq9 hl (congr (congrArg List.cons (congrArg (fun z => ((7 : Nat), Value.int z)) q_10)) (congr (congrArg List.cons (Eq.refl ((5 : Nat), Value.long (bL (un kn f g))))) (congr (congrArg List.cons (Eq.refl ((0 : Nat), Value.ref (s0)))) (congr (congrArg List.cons (Eq.refl ((1 : Nat), Value.long (bL (f))))) (congr (congrArg List.cons (Eq.refl ((3 : Nat), Value.long (bL (g))))) (rfl))))))
            have q_11 : (va_up (rcf ft g (un kn f g) k) (k) (3)) = (rcf ft g (un kn f g) (k + 1)) := by first | exact rcf_0 _ _ _ | exact rcf_3 (by assumption) (by assumption) | exact rcf_z (by assumption) (by assumption) | exact rcf_no (by assumption)
            have hP : va_P (dC, dI) vwCl [(s0, .inr (3, [.ref (s1), .ref (s2), .ref (s3), .ref (s4), .ref (s5), .ref (s6), .ref (s7), .int (iI (((n : Nat) : Int))), .long (bL (kn))])), (s1, .inl (cI, 48, .inl (aI (fd)))), (s2, .inl (cI, 48, .inl (aI (fs)))), (s3, .inl (cI, 48, .inl (aI (fl)))), (s4, .inl (cI, 48, .inl (aI (fh)))), (s5, .inl (cI, 48, .inl (aI (rcf ft g (un kn f g) (k + 1))))), (s6, .inl (cI, 48, .inl (aI (fc)))), (s7, .inl (cL, 5, .inr (.inl (aB (go)))))] H := P_eq hP (congrArg (List.cons _) (congrArg (List.cons _) (congrArg (List.cons _) (congrArg (List.cons _) (congrArg (List.cons _) (congr (congrArg List.cons (congrArg (fun z9 => ((s5 : Nat), (Sum.inl (cI, 48, Sum.inl (aI z9)) : va_E))) q_11)) (congrArg (List.cons _) (congrArg (List.cons _) (rfl)))))))))
            have hD : va_D A [(s0, .inr (3, [.ref (s1), .ref (s2), .ref (s3), .ref (s4), .ref (s5), .ref (s6), .ref (s7), .int (iI (((n : Nat) : Int))), .long (bL (kn))])), (s1, .inl (cI, 48, .inl (aI (fd)))), (s2, .inl (cI, 48, .inl (aI (fs)))), (s3, .inl (cI, 48, .inl (aI (fl)))), (s4, .inl (cI, 48, .inl (aI (fh)))), (s5, .inl (cI, 48, .inl (aI (rcf ft g (un kn f g) (k + 1))))), (s6, .inl (cI, 48, .inl (aI (fc)))), (s7, .inl (cL, 5, .inr (.inl (aB (go)))))] := D_same (w1 := [(s0, .inr (3, [.ref (s1), .ref (s2), .ref (s3), .ref (s4), .ref (s5), .ref (s6), .ref (s7), .int (iI (((n : Nat) : Int))), .long (bL (kn))])), (s1, .inl (cI, 48, .inl (aI (fd)))), (s2, .inl (cI, 48, .inl (aI (fs)))), (s3, .inl (cI, 48, .inl (aI (fl)))), (s4, .inl (cI, 48, .inl (aI (fh)))), (s5, .inl (cI, 48, .inl (aI (va_up (rcf ft g (un kn f g) k) (k) (3))))), (s6, .inl (cI, 48, .inl (aI (fc)))), (s7, .inl (cL, 5, .inr (.inl (aB (go)))))]) rfl hD
            exact ih11 (k + 1) H locs (by omega) (by omega) hP hD hS _ (lv_sub hl [0, 1, 2, 3, 4] rfl)
  exact L11 ((n - (0)) + 1) (0) s.heap [] (Nat.lt_succ_self _) (Nat.zero_le _) hP hD hS _ (lv_sub hl [0, 1, 2, 3, 4] rfl)

set_option maxHeartbeats 200000 in
set_option maxRecDepth 100000 in
theorem c_st_moveByHand (l : Launch) (dC : Nat → ClassId) (dI : Nat → Nat → Nat) (cI cL cZ : ClassId) (sz : Nat) (s0 s1 s2 s3 s4 s5 s6 s7 : Nat) (fd fs fl fh ft fc : Nat → Int) (go : Nat → Nat → Bool) (n : Nat) (kn : Nat → Bool) (hn : n ≤ 48) (k : Nat) (z : Int) (x : Bool) (hz : z = (k : Int)) (hk : k < 48) : Met l y_st_moveByHand (Cond.code y_st_moveByHand prog_5_method_6_code 3 none :: TB) ({ frames := 1, cells := 0, slots := 0, locals := 25 }) (va_Pc [.ref (s0), .int (iI (z)), .int (bI (x))] (PS dC dI [(s0, .inr (3, [.ref (s1), .ref (s2), .ref (s3), .ref (s4), .ref (s5), .ref (s6), .ref (s7), .int (iI (((n : Nat) : Int))), .long (bL (kn))])), (s1, .inl (cI, 48, .inl (aI (fd)))), (s2, .inl (cI, 48, .inl (aI (fs)))), (s3, .inl (cI, 48, .inl (aI (fl)))), (s4, .inl (cI, 48, .inl (aI (fh)))), (s5, .inl (cI, 48, .inl (aI (ft)))), (s6, .inl (cI, 48, .inl (aI (fc)))), (s7, .inl (cL, 5, .inr (.inl (aB (go)))))] [(cI, .int), (cL, .long), (cZ, .boolean)] sz)) (QW dC dI none [(s0, .inr (3, [.ref (s1), .ref (s2), .ref (s3), .ref (s4), .ref (s5), .ref (s6), .ref (s7), .int (iI (((n : Nat) : Int))), .long (bL (va_up kn k x))])), (s1, .inl (cI, 48, .inl (aI (fd)))), (s2, .inl (cI, 48, .inl (aI (fs)))), (s3, .inl (cI, 48, .inl (aI (fl)))), (s4, .inl (cI, 48, .inl (aI (fh)))), (s5, .inl (cI, 48, .inl (aI (va_up ft k 0)))), (s6, .inl (cI, 48, .inl (aI (fc)))), (s7, .inl (cL, 5, .inr (.inl (aB (go)))))] (va_A [(s0, .inr (3, [.ref (s1), .ref (s2), .ref (s3), .ref (s4), .ref (s5), .ref (s6), .ref (s7), .int (iI (((n : Nat) : Int))), .long (bL (kn))])), (s1, .inl (cI, 48, .inl (aI (fd)))), (s2, .inl (cI, 48, .inl (aI (fs)))), (s3, .inl (cI, 48, .inl (aI (fl)))), (s4, .inl (cI, 48, .inl (aI (fh)))), (s5, .inl (cI, 48, .inl (aI (ft)))), (s6, .inl (cI, 48, .inl (aI (fc)))), (s7, .inl (cL, 5, .inr (.inl (aB (go)))))] sz)) 0 0 (va_A [(s0, .inr (3, [.ref (s1), .ref (s2), .ref (s3), .ref (s4), .ref (s5), .ref (s6), .ref (s7), .int (iI (((n : Nat) : Int))), .long (bL (kn))])), (s1, .inl (cI, 48, .inl (aI (fd)))), (s2, .inl (cI, 48, .inl (aI (fs)))), (s3, .inl (cI, 48, .inl (aI (fl)))), (s4, .inl (cI, 48, .inl (aI (fh)))), (s5, .inl (cI, 48, .inl (aI (ft)))), (s6, .inl (cI, 48, .inl (aI (fc)))), (s7, .inl (cL, 5, .inr (.inl (aB (go)))))] sz) := by
  refine Met.ofW (cc := prog_5_method_6_code) (maxL := 3) (ret := none) (by decide) rfl ?_
  intro p e s m args below meth c s₁ B hml hv
  obtain ⟨ha, hsz, hP, hK, hD0, hN⟩ := hv
  have hx := B.exec
  have hb := B.bytes
  have hr := B.returns
  have htb : ∀ w ∈ TB, w.before args s = true := fun w h => atoms_spec (ws := Cond.code y_st_moveByHand prog_5_method_6_code 3 none :: TB) B.pre w (List.mem_cons_of_mem _ h)
  have hown : s.vm.findClass "OrganConsole$Stops" = some m.cls := findClass_of_methodNamed B.named
  have hlocks := B.notSynchronized
  subst hsz
  have hD := hD0.self (sz := s.heap.size)
  generalize hAe : va_A [(s0, .inr (3, [.ref (s1), .ref (s2), .ref (s3), .ref (s4), .ref (s5), .ref (s6), .ref (s7), .int (iI (((n : Nat) : Int))), .long (bL (kn))])), (s1, .inl (cI, 48, .inl (aI (fd)))), (s2, .inl (cI, 48, .inl (aI (fs)))), (s3, .inl (cI, 48, .inl (aI (fl)))), (s4, .inl (cI, 48, .inl (aI (fh)))), (s5, .inl (cI, 48, .inl (aI (ft)))), (s6, .inl (cI, 48, .inl (aI (fc)))), (s7, .inl (cL, 5, .inr (.inl (aB (go)))))] s.heap.size = A at hD ⊢
  have hA : ∀ q : Nat, s.heap.size ≤ q → A q := fun q h => by rw [← hAe]; exact Or.inr h
  have hS : va_S A s.heap s.heap [] := va_S.rf
  have hl := lv_entry ([.ref (s0), .int (iI (z)), .int (bI (x))]) (n := 3) (Nat.le_of_ble_eq_true rfl)
  refine W.eq (g2 := F0 m 0 _ []) (by rw [ha]; exact lg_entry_eq m ([.ref (s0), .int (iI (z)), .int (bI (x))]) 3) ?_
  generalize (lg_sl ([.ref (s0), .int (iI (z)), .int (bI (x))]) ++ List.replicate (3 - (lg_sl ([.ref (s0), .int (iI (z)), .int (bI (x))])).length) Slot.unset).toArray = ls at hl ⊢
  have hl : lv_has ls 3 [(0, .ref (s0)), (1, .int (iI (z))), (2, .int (bI (x)))] := hl
  refine lv_aload_n hx hb d_st_moveByHand_0 rfl (lv_at hl 0 rfl) ?_
  refine lv_aload_n hx hb d_st_moveByHand_1 rfl (lv_at hl 0 rfl) ?_
  refine va_get (D := (dC, dI)) (ci := 3) (v := .long (bL (kn))) (C := "OrganConsole$Stops") (T := T_st) (N := 9) hx hb htb in_st hown hK hP 0 rfl rfl 8 (by decide) (htb _ tw_111) (fun _ h9 => h9) rfl d_st_moveByHand_2 ?_
  refine lv_iload_n hx hb d_st_moveByHand_5 rfl (lv_at hl 1 rfl) ?_
  refine lv_iload_n hx hb d_st_moveByHand_6 rfl (lv_at hl 2 rfl) ?_
  refine pcN hx hb hml hown htb (c_oc_with l (kn) k _ x (by omega) (by omega)) (nb_403 hN) tw_404 tw_34 tw_405 3 (by decide +kernel) rfl rfl ⟨Nat.le_of_ble_eq_true rfl, Nat.le_of_ble_eq_true rfl⟩ ⟨Nat.zero_le _, Nat.zero_le _⟩ [.long (bL (kn)), .int (iI (z)), .int (bI (x))] ⟨fun _ _ _ _ q => q, fun U _ _ => ⟨rfl, trivial⟩⟩ rfl hl.1 rfl (Nat.le_of_ble_eq_true rfl) d_st_moveByHand_7 ?_
  refine va_put (D := (dC, dI)) (ci := 3) (v := .long (bL (va_up (kn) k (x)))) (ty := .long) (C := "OrganConsole$Stops") (T := T_st) (N := 9) hx hb htb in_st ty_st ty_st_ok nm_st hown hK hP hD hS 0 rfl rfl 8 (by decide) (htb _ tw_111) (fun _ h9 => h9) rfl (by decide +kernel) rfl rfl (Nat.le_of_ble_eq_true rfl) d_st_moveByHand_10 (fun H locs hP hD hS => ?_)
  have hP : va_P (dC, dI) vwCl [(s0, .inr (3, [.ref (s1), .ref (s2), .ref (s3), .ref (s4), .ref (s5), .ref (s6), .ref (s7), .int (iI (((n : Nat) : Int))), .long (bL (va_up (kn) k (x)))])), (s1, .inl (cI, 48, .inl (aI (fd)))), (s2, .inl (cI, 48, .inl (aI (fs)))), (s3, .inl (cI, 48, .inl (aI (fl)))), (s4, .inl (cI, 48, .inl (aI (fh)))), (s5, .inl (cI, 48, .inl (aI (ft)))), (s6, .inl (cI, 48, .inl (aI (fc)))), (s7, .inl (cL, 5, .inr (.inl (aB (go)))))] H := hP
  have hD : va_D A [(s0, .inr (3, [.ref (s1), .ref (s2), .ref (s3), .ref (s4), .ref (s5), .ref (s6), .ref (s7), .int (iI (((n : Nat) : Int))), .long (bL (va_up (kn) k (x)))])), (s1, .inl (cI, 48, .inl (aI (fd)))), (s2, .inl (cI, 48, .inl (aI (fs)))), (s3, .inl (cI, 48, .inl (aI (fl)))), (s4, .inl (cI, 48, .inl (aI (fh)))), (s5, .inl (cI, 48, .inl (aI (ft)))), (s6, .inl (cI, 48, .inl (aI (fc)))), (s7, .inl (cL, 5, .inr (.inl (aB (go)))))] := hD
  refine lv_aload_n hx hb d_st_moveByHand_13 rfl (lv_at hl 0 rfl) ?_
  refine va_get (D := (dC, dI)) (ci := 3) (v := .ref (s5)) (C := "OrganConsole$Stops") (T := T_st) (N := 9) hx hb htb in_st hown hK hP 0 rfl rfl 4 (by decide) (htb _ tw_103) (fun _ h9 => h9) rfl d_st_moveByHand_14 ?_
  refine lv_iload_n hx hb d_st_moveByHand_17 rfl (lv_at hl 1 rfl) ?_
  refine lv_iconst (v := iI (0)) hx hb d_st_moveByHand_18 rfl ?_
  refine xa_iast (v := 0) hx hb hK hP hD hS 5 0 rfl rfl k hz hk (by decide) d_st_moveByHand_19 (fun H locs hP hD hS => ?_)
  have hP : va_P (dC, dI) vwCl [(s0, .inr (3, [.ref (s1), .ref (s2), .ref (s3), .ref (s4), .ref (s5), .ref (s6), .ref (s7), .int (iI (((n : Nat) : Int))), .long (bL (va_up (kn) k (x)))])), (s1, .inl (cI, 48, .inl (aI (fd)))), (s2, .inl (cI, 48, .inl (aI (fs)))), (s3, .inl (cI, 48, .inl (aI (fl)))), (s4, .inl (cI, 48, .inl (aI (fh)))), (s5, .inl (cI, 48, .inl (aI (va_up (ft) k (0))))), (s6, .inl (cI, 48, .inl (aI (fc)))), (s7, .inl (cL, 5, .inr (.inl (aB (go)))))] H := hP
  have hD : va_D A [(s0, .inr (3, [.ref (s1), .ref (s2), .ref (s3), .ref (s4), .ref (s5), .ref (s6), .ref (s7), .int (iI (((n : Nat) : Int))), .long (bL (va_up (kn) k (x)))])), (s1, .inl (cI, 48, .inl (aI (fd)))), (s2, .inl (cI, 48, .inl (aI (fs)))), (s3, .inl (cI, 48, .inl (aI (fl)))), (s4, .inl (cI, 48, .inl (aI (fh)))), (s5, .inl (cI, 48, .inl (aI (va_up (ft) k (0))))), (s6, .inl (cI, 48, .inl (aI (fc)))), (s7, .inl (cL, 5, .inr (.inl (aB (go)))))] := hD
  exact W.vret hx hb hr (fun t ht hW => ⟨rfl, by rw [ht]; exact hP, hS.F ht⟩) hS.2.2 d_st_moveByHand_20

set_option maxHeartbeats 200000 in
set_option maxRecDepth 100000 in
theorem c_st_pullFor (l : Launch) (dC : Nat → ClassId) (dI : Nat → Nat → Nat) (cI cL cZ : ClassId) (sz : Nat) (s0 s1 s2 s3 s4 s5 s6 s7 : Nat) (fd fs fl fh ft fc : Nat → Int) (go : Nat → Nat → Bool) (n : Nat) (kn : Nat → Bool) (hn : n ≤ 48) (hfc : ∀ s, 0 ≤ fc s ∧ fc s ≤ 2) (hft : ∀ s, 0 ≤ ft s ∧ ft s ≤ 3) (t : Int) (h0 : 0 ≤ t) (h1 : t ≤ 100) : Met l y_st_pullFor (Cond.code y_st_pullFor prog_5_method_7_code 4 (some .int) :: TB) ({ frames := 1, cells := 0, slots := 0, locals := 21 }) (va_Pc [.ref (s0), .int (iI (t))] (PS dC dI [(s0, .inr (3, [.ref (s1), .ref (s2), .ref (s3), .ref (s4), .ref (s5), .ref (s6), .ref (s7), .int (iI (((n : Nat) : Int))), .long (bL (kn))])), (s1, .inl (cI, 48, .inl (aI (fd)))), (s2, .inl (cI, 48, .inl (aI (fs)))), (s3, .inl (cI, 48, .inl (aI (fl)))), (s4, .inl (cI, 48, .inl (aI (fh)))), (s5, .inl (cI, 48, .inl (aI (ft)))), (s6, .inl (cI, 48, .inl (aI (fc)))), (s7, .inl (cL, 5, .inr (.inl (aB (go)))))] [(cI, .int), (cL, .long), (cZ, .boolean)] sz)) (QW dC dI (some (.int (iI (((cnt (pfm ft fc t) n : Nat) : Int))))) [(s0, .inr (3, [.ref (s1), .ref (s2), .ref (s3), .ref (s4), .ref (s5), .ref (s6), .ref (s7), .int (iI (((n : Nat) : Int))), .long (bL (pfk kn ft fc t n))])), (s1, .inl (cI, 48, .inl (aI (fd)))), (s2, .inl (cI, 48, .inl (aI (fs)))), (s3, .inl (cI, 48, .inl (aI (fl)))), (s4, .inl (cI, 48, .inl (aI (fh)))), (s5, .inl (cI, 48, .inl (aI (pff ft t n)))), (s6, .inl (cI, 48, .inl (aI (fc)))), (s7, .inl (cL, 5, .inr (.inl (aB (go)))))] (va_A [(s0, .inr (3, [.ref (s1), .ref (s2), .ref (s3), .ref (s4), .ref (s5), .ref (s6), .ref (s7), .int (iI (((n : Nat) : Int))), .long (bL (kn))])), (s1, .inl (cI, 48, .inl (aI (fd)))), (s2, .inl (cI, 48, .inl (aI (fs)))), (s3, .inl (cI, 48, .inl (aI (fl)))), (s4, .inl (cI, 48, .inl (aI (fh)))), (s5, .inl (cI, 48, .inl (aI (ft)))), (s6, .inl (cI, 48, .inl (aI (fc)))), (s7, .inl (cL, 5, .inr (.inl (aB (go)))))] sz)) 0 0 (va_A [(s0, .inr (3, [.ref (s1), .ref (s2), .ref (s3), .ref (s4), .ref (s5), .ref (s6), .ref (s7), .int (iI (((n : Nat) : Int))), .long (bL (kn))])), (s1, .inl (cI, 48, .inl (aI (fd)))), (s2, .inl (cI, 48, .inl (aI (fs)))), (s3, .inl (cI, 48, .inl (aI (fl)))), (s4, .inl (cI, 48, .inl (aI (fh)))), (s5, .inl (cI, 48, .inl (aI (ft)))), (s6, .inl (cI, 48, .inl (aI (fc)))), (s7, .inl (cL, 5, .inr (.inl (aB (go)))))] sz) := by
  refine Met.ofW (cc := prog_5_method_7_code) (maxL := 4) (ret := (some .int)) (by decide) rfl ?_
  intro p e s m args below meth c s₁ B hml hv
  obtain ⟨ha, hsz, hP, hK, hD0, hN⟩ := hv
  have hx := B.exec
  have hb := B.bytes
  have hr := B.returns
  have htb : ∀ w ∈ TB, w.before args s = true := fun w h => atoms_spec (ws := Cond.code y_st_pullFor prog_5_method_7_code 4 (some .int) :: TB) B.pre w (List.mem_cons_of_mem _ h)
  have hown : s.vm.findClass "OrganConsole$Stops" = some m.cls := findClass_of_methodNamed B.named
  have hlocks := B.notSynchronized
  subst hsz
  have hD := hD0.self (sz := s.heap.size)
  generalize hAe : va_A [(s0, .inr (3, [.ref (s1), .ref (s2), .ref (s3), .ref (s4), .ref (s5), .ref (s6), .ref (s7), .int (iI (((n : Nat) : Int))), .long (bL (kn))])), (s1, .inl (cI, 48, .inl (aI (fd)))), (s2, .inl (cI, 48, .inl (aI (fs)))), (s3, .inl (cI, 48, .inl (aI (fl)))), (s4, .inl (cI, 48, .inl (aI (fh)))), (s5, .inl (cI, 48, .inl (aI (ft)))), (s6, .inl (cI, 48, .inl (aI (fc)))), (s7, .inl (cL, 5, .inr (.inl (aB (go)))))] s.heap.size = A at hD ⊢
  have hA : ∀ q : Nat, s.heap.size ≤ q → A q := fun q h => by rw [← hAe]; exact Or.inr h
  have hS : va_S A s.heap s.heap [] := va_S.rf
  have hl := lv_entry ([.ref (s0), .int (iI (t))]) (n := 4) (Nat.le_of_ble_eq_true rfl)
  refine W.eq (g2 := F0 m 0 _ []) (by rw [ha]; exact lg_entry_eq m ([.ref (s0), .int (iI (t))]) 4) ?_
  generalize (lg_sl ([.ref (s0), .int (iI (t))]) ++ List.replicate (4 - (lg_sl ([.ref (s0), .int (iI (t))])).length) Slot.unset).toArray = ls at hl ⊢
  have hl : lv_has ls 4 [(0, .ref (s0)), (1, .int (iI (t)))] := hl
  refine lv_iconst (v := iI (0)) hx hb d_st_pullFor_0 rfl ?_
  refine lv_istore_n hx hb d_st_pullFor_1 rfl hl (by decide) rfl (fun ls hl => ?_)
  have hl : lv_has ls 4 [(2, .int (iI (0))), (0, .ref (s0)), (1, .int (iI (t)))] := hl
  refine lv_iconst (v := iI (0)) hx hb d_st_pullFor_2 rfl ?_
  refine lv_istore_n hx hb d_st_pullFor_3 rfl hl (by decide) rfl (fun ls hl => ?_)
  have hl : lv_has ls 4 [(3, .int (iI (0))), (2, .int (iI (0))), (0, .ref (s0)), (1, .int (iI (t)))] := hl
  have q_1 : iI (0) = iI (((cnt (pfm ft fc t) (0) : Nat) : Int)) := congrArg iI (by first | (rw [cnt_z]; rfl) | exact pfc_turn (by omega) (by omega) | rw [cnt_f (pfm_f (by omega))])
  have q_2 : iI (0) = iI ((((0) : Nat) : Int)) := congrArg iI (by omega)
  have hl : lv_has ls 4 [(3, .int (iI ((((0) : Nat) : Int)))), (2, .int (iI (((cnt (pfm ft fc t) (0) : Nat) : Int)))), (0, .ref (s0)), (1, .int (iI (t)))] := lv_eq9 hl (congr (congrArg List.cons (congrArg (fun z => ((3 : Nat), Value.int z)) q_2)) (congr (congrArg List.cons (congrArg (fun z => ((2 : Nat), Value.int z)) q_1)) (congr (congrArg List.cons (Eq.refl ((0 : Nat), Value.ref (s0)))) (congr (congrArg List.cons (Eq.refl ((1 : Nat), Value.int (iI (t))))) (rfl)))))
  have q_3 : (ft) = (pff ft t (0)) := by first | exact pff_0 _ _ | exact pff_a (by omega) | exact pff_b (by omega) | exact pff_c (by omega) (by omega)
  have q_4 : bL (kn) = bL (pfk kn ft fc t (0)) := congrArg bL (by first | exact pfk_0 _ _ _ _ | exact pfk_turn (by omega) (by omega) | exact pfk_n (pfm_f (by omega)))
  have hP : va_P (dC, dI) vwCl [(s0, .inr (3, [.ref (s1), .ref (s2), .ref (s3), .ref (s4), .ref (s5), .ref (s6), .ref (s7), .int (iI (((n : Nat) : Int))), .long (bL (pfk kn ft fc t (0)))])), (s1, .inl (cI, 48, .inl (aI (fd)))), (s2, .inl (cI, 48, .inl (aI (fs)))), (s3, .inl (cI, 48, .inl (aI (fl)))), (s4, .inl (cI, 48, .inl (aI (fh)))), (s5, .inl (cI, 48, .inl (aI (pff ft t (0))))), (s6, .inl (cI, 48, .inl (aI (fc)))), (s7, .inl (cL, 5, .inr (.inl (aB (go)))))] s.heap := P_eq hP (congr (congrArg List.cons (congrArg (fun z9 => ((s0 : Nat), (Sum.inr (3, z9) : va_E))) (show ([.ref (s1), .ref (s2), .ref (s3), .ref (s4), .ref (s5), .ref (s6), .ref (s7), .int (iI (((n : Nat) : Int))), .long (bL (kn))] : List Value) = [.ref (s1), .ref (s2), .ref (s3), .ref (s4), .ref (s5), .ref (s6), .ref (s7), .int (iI (((n : Nat) : Int))), .long (bL (pfk kn ft fc t (0)))] from congrArg (List.cons _) (congrArg (List.cons _) (congrArg (List.cons _) (congrArg (List.cons _) (congrArg (List.cons _) (congrArg (List.cons _) (congrArg (List.cons _) (congrArg (List.cons _) (congr (congrArg List.cons (congrArg Value.long q_4)) (rfl)))))))))))) (congrArg (List.cons _) (congrArg (List.cons _) (congrArg (List.cons _) (congrArg (List.cons _) (congr (congrArg List.cons (congrArg (fun z9 => ((s5 : Nat), (Sum.inl (cI, 48, Sum.inl (aI z9)) : va_E))) q_3)) (congrArg (List.cons _) (congrArg (List.cons _) (rfl)))))))))
  have hD : va_D A [(s0, .inr (3, [.ref (s1), .ref (s2), .ref (s3), .ref (s4), .ref (s5), .ref (s6), .ref (s7), .int (iI (((n : Nat) : Int))), .long (bL (pfk kn ft fc t (0)))])), (s1, .inl (cI, 48, .inl (aI (fd)))), (s2, .inl (cI, 48, .inl (aI (fs)))), (s3, .inl (cI, 48, .inl (aI (fl)))), (s4, .inl (cI, 48, .inl (aI (fh)))), (s5, .inl (cI, 48, .inl (aI (pff ft t (0))))), (s6, .inl (cI, 48, .inl (aI (fc)))), (s7, .inl (cL, 5, .inr (.inl (aB (go)))))] := D_same (w1 := [(s0, .inr (3, [.ref (s1), .ref (s2), .ref (s3), .ref (s4), .ref (s5), .ref (s6), .ref (s7), .int (iI (((n : Nat) : Int))), .long (bL (kn))])), (s1, .inl (cI, 48, .inl (aI (fd)))), (s2, .inl (cI, 48, .inl (aI (fs)))), (s3, .inl (cI, 48, .inl (aI (fl)))), (s4, .inl (cI, 48, .inl (aI (fh)))), (s5, .inl (cI, 48, .inl (aI (ft)))), (s6, .inl (cI, 48, .inl (aI (fc)))), (s7, .inl (cL, 5, .inr (.inl (aB (go)))))]) rfl hD
  have L4 : ∀ (fu : Nat) (k : Nat) (H : Heap) (locs : List Loc), n - k < fu → k ≤ n → va_P (dC, dI) vwCl [(s0, .inr (3, [.ref (s1), .ref (s2), .ref (s3), .ref (s4), .ref (s5), .ref (s6), .ref (s7), .int (iI (((n : Nat) : Int))), .long (bL (pfk kn ft fc t k))])), (s1, .inl (cI, 48, .inl (aI (fd)))), (s2, .inl (cI, 48, .inl (aI (fs)))), (s3, .inl (cI, 48, .inl (aI (fl)))), (s4, .inl (cI, 48, .inl (aI (fh)))), (s5, .inl (cI, 48, .inl (aI (pff ft t k)))), (s6, .inl (cI, 48, .inl (aI (fc)))), (s7, .inl (cL, 5, .inr (.inl (aB (go)))))] H → va_D A [(s0, .inr (3, [.ref (s1), .ref (s2), .ref (s3), .ref (s4), .ref (s5), .ref (s6), .ref (s7), .int (iI (((n : Nat) : Int))), .long (bL (pfk kn ft fc t k))])), (s1, .inl (cI, 48, .inl (aI (fd)))), (s2, .inl (cI, 48, .inl (aI (fs)))), (s3, .inl (cI, 48, .inl (aI (fl)))), (s4, .inl (cI, 48, .inl (aI (fh)))), (s5, .inl (cI, 48, .inl (aI (pff ft t k)))), (s6, .inl (cI, 48, .inl (aI (fc)))), (s7, .inl (cL, 5, .inr (.inl (aB (go)))))] → va_S A s.heap H locs → ∀ ls : Array Slot, lv_has ls 4 [(2, .int (iI (((cnt (pfm ft fc t) k : Nat) : Int)))), (3, .int (iI (((k : Nat) : Int)))), (0, .ref (s0)), (1, .int (iI (t)))] → W p l e (headSpec (Cond.code y_st_pullFor prog_5_method_7_code 4 (some .int) :: TB) ({ frames := 1, cells := 0, slots := 0, locals := 21 })).room s m args below meth c H locs 0 0 (MQ below (QW dC dI (some (.int (iI (((cnt (pfm ft fc t) n : Nat) : Int))))) [(s0, .inr (3, [.ref (s1), .ref (s2), .ref (s3), .ref (s4), .ref (s5), .ref (s6), .ref (s7), .int (iI (((n : Nat) : Int))), .long (bL (pfk kn ft fc t n))])), (s1, .inl (cI, 48, .inl (aI (fd)))), (s2, .inl (cI, 48, .inl (aI (fs)))), (s3, .inl (cI, 48, .inl (aI (fl)))), (s4, .inl (cI, 48, .inl (aI (fh)))), (s5, .inl (cI, 48, .inl (aI (pff ft t n)))), (s6, .inl (cI, 48, .inl (aI (fc)))), (s7, .inl (cL, 5, .inr (.inl (aB (go)))))] A) args s 0 0 A) (F0 m 4 ls []) := by
    intro fu
    induction fu with
    | zero => intro k H locs hfu; exact absurd hfu (Nat.not_lt_zero _)
    | succ fu ih4 =>
      intro k H locs hfu hk hP hD hS ls hl
      refine lv_iload_n hx hb d_st_pullFor_4 rfl (lv_at hl 1 rfl) ?_
      refine lv_aload_n hx hb d_st_pullFor_5 rfl (lv_at hl 2 rfl) ?_
      refine va_get (D := (dC, dI)) (ci := 3) (v := .int (iI (((n : Nat) : Int)))) (C := "OrganConsole$Stops") (T := T_st) (N := 9) hx hb htb in_st hown hK hP 0 rfl rfl 7 (by decide) (htb _ tw_109) (fun _ h9 => h9) rfl d_st_pullFor_6 ?_
      refine xi_icmp_ge (tgt := 65) hx hb ⟨by omega, by omega⟩ ⟨by omega, by omega⟩ d_st_pullFor_9 (by decide) (fun u_5 => ?_) (fun u_5 => ?_)
      · skip
        refine lv_iload_n hx hb d_st_pullFor_65 rfl (lv_at hl 0 rfl) ?_
        have q_6 : iI (((cnt (pfm ft fc t) k : Nat) : Int)) = iI (((cnt (pfm ft fc t) n : Nat) : Int)) := by
          have : k = n := by omega
          subst this
          rfl
        rw [q_6]
        have : n = k := by omega
        subst this
        exact W.iret (v := iI (((cnt (pfm ft fc t) n : Nat) : Int))) hx hb hr (fun t ht hW => ⟨rfl, by rw [ht]; exact hP, hS.F ht⟩) hS.2.2 d_st_pullFor_66
      · skip
        have e1 := pff_at ft t k
        have hf := hft k
        have hc := cnt_le (pfm ft fc t) k
        refine lv_aload_n hx hb d_st_pullFor_12 rfl (lv_at hl 2 rfl) ?_
        refine va_get (D := (dC, dI)) (ci := 3) (v := .ref (s5)) (C := "OrganConsole$Stops") (T := T_st) (N := 9) hx hb htb in_st hown hK hP 0 rfl rfl 4 (by decide) (htb _ tw_103) (fun _ h9 => h9) rfl d_st_pullFor_13 ?_
        refine lv_iload_n hx hb d_st_pullFor_16 rfl (lv_at hl 1 rfl) ?_
        refine xa_iald hx hb hK hP 5 0 rfl rfl (k) (by omega) (by omega) (by decide) d_st_pullFor_17 ?_
        refine lv_iload_n hx hb d_st_pullFor_18 rfl (lv_at hl 3 rfl) ?_
        refine xi_icmp_le (tgt := 35) hx hb ⟨by omega, by omega⟩ ⟨by omega, by omega⟩ d_st_pullFor_19 (by decide) (fun u_7 => ?_) (fun u_7 => ?_)
        · skip
          refine lv_aload_n hx hb d_st_pullFor_35 rfl (lv_at hl 2 rfl) ?_
          refine va_get (D := (dC, dI)) (ci := 3) (v := .ref (s5)) (C := "OrganConsole$Stops") (T := T_st) (N := 9) hx hb htb in_st hown hK hP 0 rfl rfl 4 (by decide) (htb _ tw_103) (fun _ h9 => h9) rfl d_st_pullFor_36 ?_
          refine lv_iload_n hx hb d_st_pullFor_39 rfl (lv_at hl 1 rfl) ?_
          refine xa_iald hx hb hK hP 5 0 rfl rfl (k) (by omega) (by omega) (by decide) d_st_pullFor_40 ?_
          refine xi_if_le (tgt := 59) hx hb ⟨by omega, by omega⟩ d_st_pullFor_41 (by decide) (fun u_8 => ?_) (fun u_8 => ?_)
          · skip
            refine lv_iinc (k := 1) (v := iI (((k : Nat) : Int) + 1)) hx hb d_st_pullFor_59 hl rfl (iI_add _ _) (by decide) rfl (fun ls hl => ?_)
            have hl : lv_has ls 4 [(3, .int (iI (((k : Nat) : Int) + 1))), (2, .int (iI (((cnt (pfm ft fc t) k : Nat) : Int)))), (0, .ref (s0)), (1, .int (iI (t)))] := hl
            refine lv_goto (tgt := 4) hx hb d_st_pullFor_62 (by decide) ?_
            have q_9 : iI (((cnt (pfm ft fc t) k : Nat) : Int)) = iI (((cnt (pfm ft fc t) (k + 1) : Nat) : Int)) := congrArg iI (by first | (rw [cnt_z]; rfl) | exact pfc_turn (by omega) (by omega) | rw [cnt_f (pfm_f (by omega))])
            have q_10 : iI (((k : Nat) : Int) + 1) = iI ((((k + 1) : Nat) : Int)) := congrArg iI (by omega)
            have hl : lv_has ls 4 [(3, .int (iI ((((k + 1) : Nat) : Int)))), (2, .int (iI (((cnt (pfm ft fc t) (k + 1) : Nat) : Int)))), (0, .ref (s0)), (1, .int (iI (t)))] := lv_eq9 hl (congr (congrArg List.cons (congrArg (fun z => ((3 : Nat), Value.int z)) q_10)) (congr (congrArg List.cons (congrArg (fun z => ((2 : Nat), Value.int z)) q_9)) (congr (congrArg List.cons (Eq.refl ((0 : Nat), Value.ref (s0)))) (congr (congrArg List.cons (Eq.refl ((1 : Nat), Value.int (iI (t))))) (rfl)))))
            have q_11 : (pff ft t k) = (pff ft t (k + 1)) := by first | exact pff_0 _ _ | exact pff_a (by omega) | exact pff_b (by omega) | exact pff_c (by omega) (by omega)
            have q_12 : bL (pfk kn ft fc t k) = bL (pfk kn ft fc t (k + 1)) := congrArg bL (by first | exact pfk_0 _ _ _ _ | exact pfk_turn (by omega) (by omega) | exact pfk_n (pfm_f (by omega)))
            have hP : va_P (dC, dI) vwCl [(s0, .inr (3, [.ref (s1), .ref (s2), .ref (s3), .ref (s4), .ref (s5), .ref (s6), .ref (s7), .int (iI (((n : Nat) : Int))), .long (bL (pfk kn ft fc t (k + 1)))])), (s1, .inl (cI, 48, .inl (aI (fd)))), (s2, .inl (cI, 48, .inl (aI (fs)))), (s3, .inl (cI, 48, .inl (aI (fl)))), (s4, .inl (cI, 48, .inl (aI (fh)))), (s5, .inl (cI, 48, .inl (aI (pff ft t (k + 1))))), (s6, .inl (cI, 48, .inl (aI (fc)))), (s7, .inl (cL, 5, .inr (.inl (aB (go)))))] H := P_eq hP (congr (congrArg List.cons (congrArg (fun z9 => ((s0 : Nat), (Sum.inr (3, z9) : va_E))) (show ([.ref (s1), .ref (s2), .ref (s3), .ref (s4), .ref (s5), .ref (s6), .ref (s7), .int (iI (((n : Nat) : Int))), .long (bL (pfk kn ft fc t k))] : List Value) = [.ref (s1), .ref (s2), .ref (s3), .ref (s4), .ref (s5), .ref (s6), .ref (s7), .int (iI (((n : Nat) : Int))), .long (bL (pfk kn ft fc t (k + 1)))] from congrArg (List.cons _) (congrArg (List.cons _) (congrArg (List.cons _) (congrArg (List.cons _) (congrArg (List.cons _) (congrArg (List.cons _) (congrArg (List.cons _) (congrArg (List.cons _) (congr (congrArg List.cons (congrArg Value.long q_12)) (rfl)))))))))))) (congrArg (List.cons _) (congrArg (List.cons _) (congrArg (List.cons _) (congrArg (List.cons _) (congr (congrArg List.cons (congrArg (fun z9 => ((s5 : Nat), (Sum.inl (cI, 48, Sum.inl (aI z9)) : va_E))) q_11)) (congrArg (List.cons _) (congrArg (List.cons _) (rfl)))))))))
            have hD : va_D A [(s0, .inr (3, [.ref (s1), .ref (s2), .ref (s3), .ref (s4), .ref (s5), .ref (s6), .ref (s7), .int (iI (((n : Nat) : Int))), .long (bL (pfk kn ft fc t (k + 1)))])), (s1, .inl (cI, 48, .inl (aI (fd)))), (s2, .inl (cI, 48, .inl (aI (fs)))), (s3, .inl (cI, 48, .inl (aI (fl)))), (s4, .inl (cI, 48, .inl (aI (fh)))), (s5, .inl (cI, 48, .inl (aI (pff ft t (k + 1))))), (s6, .inl (cI, 48, .inl (aI (fc)))), (s7, .inl (cL, 5, .inr (.inl (aB (go)))))] := D_same (w1 := [(s0, .inr (3, [.ref (s1), .ref (s2), .ref (s3), .ref (s4), .ref (s5), .ref (s6), .ref (s7), .int (iI (((n : Nat) : Int))), .long (bL (pfk kn ft fc t k))])), (s1, .inl (cI, 48, .inl (aI (fd)))), (s2, .inl (cI, 48, .inl (aI (fs)))), (s3, .inl (cI, 48, .inl (aI (fl)))), (s4, .inl (cI, 48, .inl (aI (fh)))), (s5, .inl (cI, 48, .inl (aI (pff ft t k)))), (s6, .inl (cI, 48, .inl (aI (fc)))), (s7, .inl (cL, 5, .inr (.inl (aB (go)))))]) rfl hD
            exact ih4 (k + 1) H locs (by omega) (by omega) hP hD hS _ (lv_sub hl [1, 0, 2, 3] rfl)
          · skip
            refine lv_aload_n hx hb d_st_pullFor_44 rfl (lv_at hl 2 rfl) ?_
            refine va_get (D := (dC, dI)) (ci := 3) (v := .ref (s5)) (C := "OrganConsole$Stops") (T := T_st) (N := 9) hx hb htb in_st hown hK hP 0 rfl rfl 4 (by decide) (htb _ tw_103) (fun _ h9 => h9) rfl d_st_pullFor_45 ?_
            refine lv_iload_n hx hb d_st_pullFor_48 rfl (lv_at hl 1 rfl) ?_
            refine lv_iconst (v := iI (0)) hx hb d_st_pullFor_49 rfl ?_
            refine xa_iast (v := 0) hx hb hK hP hD hS 5 0 rfl rfl (k) (by omega) (by omega) (by decide) d_st_pullFor_50 (fun H locs hP hD hS => ?_)
            have hP : va_P (dC, dI) vwCl [(s0, .inr (3, [.ref (s1), .ref (s2), .ref (s3), .ref (s4), .ref (s5), .ref (s6), .ref (s7), .int (iI (((n : Nat) : Int))), .long (bL (pfk kn ft fc t k))])), (s1, .inl (cI, 48, .inl (aI (fd)))), (s2, .inl (cI, 48, .inl (aI (fs)))), (s3, .inl (cI, 48, .inl (aI (fl)))), (s4, .inl (cI, 48, .inl (aI (fh)))), (s5, .inl (cI, 48, .inl (aI (va_up (pff ft t k) (k) (0))))), (s6, .inl (cI, 48, .inl (aI (fc)))), (s7, .inl (cL, 5, .inr (.inl (aB (go)))))] H := hP
            have hD : va_D A [(s0, .inr (3, [.ref (s1), .ref (s2), .ref (s3), .ref (s4), .ref (s5), .ref (s6), .ref (s7), .int (iI (((n : Nat) : Int))), .long (bL (pfk kn ft fc t k))])), (s1, .inl (cI, 48, .inl (aI (fd)))), (s2, .inl (cI, 48, .inl (aI (fs)))), (s3, .inl (cI, 48, .inl (aI (fl)))), (s4, .inl (cI, 48, .inl (aI (fh)))), (s5, .inl (cI, 48, .inl (aI (va_up (pff ft t k) (k) (0))))), (s6, .inl (cI, 48, .inl (aI (fc)))), (s7, .inl (cL, 5, .inr (.inl (aB (go)))))] := hD
            refine lv_iload_n hx hb d_st_pullFor_51 rfl (lv_at hl 0 rfl) ?_
            refine lv_aload_n hx hb d_st_pullFor_52 rfl (lv_at hl 2 rfl) ?_
            refine lv_iload_n hx hb d_st_pullFor_53 rfl (lv_at hl 1 rfl) ?_
            have hFc := va_free (wc := [(s0, .inr (3, [.ref (s1), .ref (s2), .ref (s3), .ref (s4), .ref (s5), .ref (s6), .ref (s7), .int (iI (((n : Nat) : Int))), .long (bL (pfk kn ft fc t k))])), (s1, .inl (cI, 48, .inl (aI (fd)))), (s2, .inl (cI, 48, .inl (aI (fs)))), (s3, .inl (cI, 48, .inl (aI (fl)))), (s4, .inl (cI, 48, .inl (aI (fh)))), (s5, .inl (cI, 48, .inl (aI (va_up (pff ft t k) (k) (0))))), (s6, .inl (cI, 48, .inl (aI (fc)))), (s7, .inl (cL, 5, .inr (.inl (aB (go)))))]) hD hS hA [0, 1, 2, 3, 4, 5, 6, 7] rfl
            refine wcV hx hb hml hown htb (c_st_turn l dC dI cI cL cZ H.size s0 s1 s2 s3 s4 s5 s6 s7 fd fs fl fh (va_up (pff ft t k) (k) (0)) fc go n (pfk kn ft fc t k) hn hfc (k) _ (by omega) (by omega)) tw_596 tw_598 tw_10 tw_36 tw_599 1 (by decide +kernel) rfl rfl ⟨Nat.le_of_ble_eq_true rfl, Nat.le_of_ble_eq_true rfl⟩ ⟨Nat.zero_le _, Nat.zero_le _⟩ [.int (iI (((k : Nat) : Int)))] (PS_V (q0 := 0) (ci := 3) (ws := [(s0, .inr (3, [.ref (s1), .ref (s2), .ref (s3), .ref (s4), .ref (s5), .ref (s6), .ref (s7), .int (iI (((n : Nat) : Int))), .long (bL (pfk kn ft fc t k))])), (s1, .inl (cI, 48, .inl (aI (fd)))), (s2, .inl (cI, 48, .inl (aI (fs)))), (s3, .inl (cI, 48, .inl (aI (fl)))), (s4, .inl (cI, 48, .inl (aI (fh)))), (s5, .inl (cI, 48, .inl (aI (va_up (pff ft t k) (k) (0))))), (s6, .inl (cI, 48, .inl (aI (fc)))), (s7, .inl (cL, 5, .inr (.inl (aB (go)))))]) hP (hP.sub [0, 1, 2, 3, 4, 5, 6, 7] rfl) hK (hD.sub [0, 1, 2, 3, 4, 5, 6, 7] (by decide) rfl) hN rfl rfl) rfl hl.1 rfl (Nat.le_of_ble_eq_true rfl) d_st_pullFor_54 hS hFc (fun H1 locs hP1 hz1 hk1 hS => ?_)
            obtain ⟨hP, hD⟩ := wc_join (wc := [(s0, .inr (3, [.ref (s1), .ref (s2), .ref (s3), .ref (s4), .ref (s5), .ref (s6), .ref (s7), .int (iI (((n : Nat) : Int))), .long (bL (pfk kn ft fc t k))])), (s1, .inl (cI, 48, .inl (aI (fd)))), (s2, .inl (cI, 48, .inl (aI (fs)))), (s3, .inl (cI, 48, .inl (aI (fl)))), (s4, .inl (cI, 48, .inl (aI (fh)))), (s5, .inl (cI, 48, .inl (aI (va_up (pff ft t k) (k) (0))))), (s6, .inl (cI, 48, .inl (aI (fc)))), (s7, .inl (cL, 5, .inr (.inl (aB (go)))))]) (w2 := [(s0, .inr (3, [.ref (s1), .ref (s2), .ref (s3), .ref (s4), .ref (s5), .ref (s6), .ref (s7), .int (iI (((n : Nat) : Int))), .long (bL (tnk (pfk kn ft fc t k) fc (k)))])), (s1, .inl (cI, 48, .inl (aI (fd)))), (s2, .inl (cI, 48, .inl (aI (fs)))), (s3, .inl (cI, 48, .inl (aI (fl)))), (s4, .inl (cI, 48, .inl (aI (fh)))), (s5, .inl (cI, 48, .inl (aI (va_up (pff ft t k) (k) (0))))), (s6, .inl (cI, 48, .inl (aI (fc)))), (s7, .inl (cL, 5, .inr (.inl (aB (go)))))]) (wr := []) (w1 := [(s0, .inr (3, [.ref (s1), .ref (s2), .ref (s3), .ref (s4), .ref (s5), .ref (s6), .ref (s7), .int (iI (((n : Nat) : Int))), .long (bL (tnk (pfk kn ft fc t k) fc (k)))])), (s1, .inl (cI, 48, .inl (aI (fd)))), (s2, .inl (cI, 48, .inl (aI (fs)))), (s3, .inl (cI, 48, .inl (aI (fl)))), (s4, .inl (cI, 48, .inl (aI (fh)))), (s5, .inl (cI, 48, .inl (aI (va_up (pff ft t k) (k) (0))))), (s6, .inl (cI, 48, .inl (aI (fc)))), (s7, .inl (cL, 5, .inr (.inl (aB (go)))))]) hP hD [0, 1, 2, 3, 4, 5, 6, 7] [] [0, 1, 2, 3, 4, 5, 6, 7] rfl rfl (by decide) (by decide) (by decide) rfl hk1 hFc hP1 rfl rfl (by decide)
            generalize H1 = H at hP hS ⊢
            have hti := tni_in fc k
            refine xi_add hx hb d_st_pullFor_57 ?_
            refine lv_istore_n hx hb d_st_pullFor_58 rfl hl (by decide) rfl (fun ls hl => ?_)
            have hl : lv_has ls 4 [(2, .int (iI ((((cnt (pfm ft fc t) k : Nat) : Int)) + (tni fc (k))))), (3, .int (iI (((k : Nat) : Int)))), (0, .ref (s0)), (1, .int (iI (t)))] := hl
            refine lv_iinc (k := 1) (v := iI (((k : Nat) : Int) + 1)) hx hb d_st_pullFor_59 hl rfl (iI_add _ _) (by decide) rfl (fun ls hl => ?_)
            have hl : lv_has ls 4 [(3, .int (iI (((k : Nat) : Int) + 1))), (2, .int (iI ((((cnt (pfm ft fc t) k : Nat) : Int)) + (tni fc (k))))), (0, .ref (s0)), (1, .int (iI (t)))] := hl
            refine lv_goto (tgt := 4) hx hb d_st_pullFor_62 (by decide) ?_
            have q_13 : iI ((((cnt (pfm ft fc t) k : Nat) : Int)) + (tni fc (k))) = iI (((cnt (pfm ft fc t) (k + 1) : Nat) : Int)) := congrArg iI (by first | (rw [cnt_z]; rfl) | exact pfc_turn (by omega) (by omega) | rw [cnt_f (pfm_f (by omega))])
            have q_14 : iI (((k : Nat) : Int) + 1) = iI ((((k + 1) : Nat) : Int)) := congrArg iI (by omega)
            have hl : lv_has ls 4 [(3, .int (iI ((((k + 1) : Nat) : Int)))), (2, .int (iI (((cnt (pfm ft fc t) (k + 1) : Nat) : Int)))), (0, .ref (s0)), (1, .int (iI (t)))] := lv_eq9 hl (congr (congrArg List.cons (congrArg (fun z => ((3 : Nat), Value.int z)) q_14)) (congr (congrArg List.cons (congrArg (fun z => ((2 : Nat), Value.int z)) q_13)) (congr (congrArg List.cons (Eq.refl ((0 : Nat), Value.ref (s0)))) (congr (congrArg List.cons (Eq.refl ((1 : Nat), Value.int (iI (t))))) (rfl)))))
            have q_15 : (va_up (pff ft t k) (k) (0)) = (pff ft t (k + 1)) := by first | exact pff_0 _ _ | exact pff_a (by omega) | exact pff_b (by omega) | exact pff_c (by omega) (by omega)
            have q_16 : bL (tnk (pfk kn ft fc t k) fc (k)) = bL (pfk kn ft fc t (k + 1)) := congrArg bL (by first | exact pfk_0 _ _ _ _ | exact pfk_turn (by omega) (by omega) | exact pfk_n (pfm_f (by omega)))
            have hP : va_P (dC, dI) vwCl [(s0, .inr (3, [.ref (s1), .ref (s2), .ref (s3), .ref (s4), .ref (s5), .ref (s6), .ref (s7), .int (iI (((n : Nat) : Int))), .long (bL (pfk kn ft fc t (k + 1)))])), (s1, .inl (cI, 48, .inl (aI (fd)))), (s2, .inl (cI, 48, .inl (aI (fs)))), (s3, .inl (cI, 48, .inl (aI (fl)))), (s4, .inl (cI, 48, .inl (aI (fh)))), (s5, .inl (cI, 48, .inl (aI (pff ft t (k + 1))))), (s6, .inl (cI, 48, .inl (aI (fc)))), (s7, .inl (cL, 5, .inr (.inl (aB (go)))))] H := P_eq hP (congr (congrArg List.cons (congrArg (fun z9 => ((s0 : Nat), (Sum.inr (3, z9) : va_E))) (show ([.ref (s1), .ref (s2), .ref (s3), .ref (s4), .ref (s5), .ref (s6), .ref (s7), .int (iI (((n : Nat) : Int))), .long (bL (tnk (pfk kn ft fc t k) fc (k)))] : List Value) = [.ref (s1), .ref (s2), .ref (s3), .ref (s4), .ref (s5), .ref (s6), .ref (s7), .int (iI (((n : Nat) : Int))), .long (bL (pfk kn ft fc t (k + 1)))] from congrArg (List.cons _) (congrArg (List.cons _) (congrArg (List.cons _) (congrArg (List.cons _) (congrArg (List.cons _) (congrArg (List.cons _) (congrArg (List.cons _) (congrArg (List.cons _) (congr (congrArg List.cons (congrArg Value.long q_16)) (rfl)))))))))))) (congrArg (List.cons _) (congrArg (List.cons _) (congrArg (List.cons _) (congrArg (List.cons _) (congr (congrArg List.cons (congrArg (fun z9 => ((s5 : Nat), (Sum.inl (cI, 48, Sum.inl (aI z9)) : va_E))) q_15)) (congrArg (List.cons _) (congrArg (List.cons _) (rfl)))))))))
            have hD : va_D A [(s0, .inr (3, [.ref (s1), .ref (s2), .ref (s3), .ref (s4), .ref (s5), .ref (s6), .ref (s7), .int (iI (((n : Nat) : Int))), .long (bL (pfk kn ft fc t (k + 1)))])), (s1, .inl (cI, 48, .inl (aI (fd)))), (s2, .inl (cI, 48, .inl (aI (fs)))), (s3, .inl (cI, 48, .inl (aI (fl)))), (s4, .inl (cI, 48, .inl (aI (fh)))), (s5, .inl (cI, 48, .inl (aI (pff ft t (k + 1))))), (s6, .inl (cI, 48, .inl (aI (fc)))), (s7, .inl (cL, 5, .inr (.inl (aB (go)))))] := D_same (w1 := [(s0, .inr (3, [.ref (s1), .ref (s2), .ref (s3), .ref (s4), .ref (s5), .ref (s6), .ref (s7), .int (iI (((n : Nat) : Int))), .long (bL (tnk (pfk kn ft fc t k) fc (k)))])), (s1, .inl (cI, 48, .inl (aI (fd)))), (s2, .inl (cI, 48, .inl (aI (fs)))), (s3, .inl (cI, 48, .inl (aI (fl)))), (s4, .inl (cI, 48, .inl (aI (fh)))), (s5, .inl (cI, 48, .inl (aI (va_up (pff ft t k) (k) (0))))), (s6, .inl (cI, 48, .inl (aI (fc)))), (s7, .inl (cL, 5, .inr (.inl (aB (go)))))]) rfl hD
            exact ih4 (k + 1) H locs (by omega) (by omega) hP hD hS _ (lv_sub hl [1, 0, 2, 3] rfl)
        · skip
          refine lv_aload_n hx hb d_st_pullFor_22 rfl (lv_at hl 2 rfl) ?_
          refine va_get (D := (dC, dI)) (ci := 3) (v := .ref (s5)) (C := "OrganConsole$Stops") (T := T_st) (N := 9) hx hb htb in_st hown hK hP 0 rfl rfl 4 (by decide) (htb _ tw_103) (fun _ h9 => h9) rfl d_st_pullFor_23 ?_
          refine lv_iload_n hx hb d_st_pullFor_26 rfl (lv_at hl 1 rfl) ?_
          refine lv_dup2_11 hx hb d_st_pullFor_27 rfl rfl ?_
          refine xa_iald hx hb hK hP 5 0 rfl rfl (k) (by omega) (by omega) (by decide) d_st_pullFor_28 ?_
          refine lv_iload_n hx hb d_st_pullFor_29 rfl (lv_at hl 3 rfl) ?_
          refine xi_sub hx hb d_st_pullFor_30 ?_
          refine xa_iast (v := ((pff ft t k) (k)) - (t)) hx hb hK hP hD hS 5 0 rfl rfl (k) (by omega) (by omega) (by decide) d_st_pullFor_31 (fun H locs hP hD hS => ?_)
          have hP : va_P (dC, dI) vwCl [(s0, .inr (3, [.ref (s1), .ref (s2), .ref (s3), .ref (s4), .ref (s5), .ref (s6), .ref (s7), .int (iI (((n : Nat) : Int))), .long (bL (pfk kn ft fc t k))])), (s1, .inl (cI, 48, .inl (aI (fd)))), (s2, .inl (cI, 48, .inl (aI (fs)))), (s3, .inl (cI, 48, .inl (aI (fl)))), (s4, .inl (cI, 48, .inl (aI (fh)))), (s5, .inl (cI, 48, .inl (aI (va_up (pff ft t k) (k) (((pff ft t k) (k)) - (t)))))), (s6, .inl (cI, 48, .inl (aI (fc)))), (s7, .inl (cL, 5, .inr (.inl (aB (go)))))] H := hP
          have hD : va_D A [(s0, .inr (3, [.ref (s1), .ref (s2), .ref (s3), .ref (s4), .ref (s5), .ref (s6), .ref (s7), .int (iI (((n : Nat) : Int))), .long (bL (pfk kn ft fc t k))])), (s1, .inl (cI, 48, .inl (aI (fd)))), (s2, .inl (cI, 48, .inl (aI (fs)))), (s3, .inl (cI, 48, .inl (aI (fl)))), (s4, .inl (cI, 48, .inl (aI (fh)))), (s5, .inl (cI, 48, .inl (aI (va_up (pff ft t k) (k) (((pff ft t k) (k)) - (t)))))), (s6, .inl (cI, 48, .inl (aI (fc)))), (s7, .inl (cL, 5, .inr (.inl (aB (go)))))] := hD
          refine lv_goto (tgt := 59) hx hb d_st_pullFor_32 (by decide) ?_
          refine lv_iinc (k := 1) (v := iI (((k : Nat) : Int) + 1)) hx hb d_st_pullFor_59 hl rfl (iI_add _ _) (by decide) rfl (fun ls hl => ?_)
          have hl : lv_has ls 4 [(3, .int (iI (((k : Nat) : Int) + 1))), (2, .int (iI (((cnt (pfm ft fc t) k : Nat) : Int)))), (0, .ref (s0)), (1, .int (iI (t)))] := hl
          refine lv_goto (tgt := 4) hx hb d_st_pullFor_62 (by decide) ?_
          have q_17 : iI (((cnt (pfm ft fc t) k : Nat) : Int)) = iI (((cnt (pfm ft fc t) (k + 1) : Nat) : Int)) := congrArg iI (by first | (rw [cnt_z]; rfl) | exact pfc_turn (by omega) (by omega) | rw [cnt_f (pfm_f (by omega))])
          have q_18 : iI (((k : Nat) : Int) + 1) = iI ((((k + 1) : Nat) : Int)) := congrArg iI (by omega)
          have hl : lv_has ls 4 [(3, .int (iI ((((k + 1) : Nat) : Int)))), (2, .int (iI (((cnt (pfm ft fc t) (k + 1) : Nat) : Int)))), (0, .ref (s0)), (1, .int (iI (t)))] := lv_eq9 hl (congr (congrArg List.cons (congrArg (fun z => ((3 : Nat), Value.int z)) q_18)) (congr (congrArg List.cons (congrArg (fun z => ((2 : Nat), Value.int z)) q_17)) (congr (congrArg List.cons (Eq.refl ((0 : Nat), Value.ref (s0)))) (congr (congrArg List.cons (Eq.refl ((1 : Nat), Value.int (iI (t))))) (rfl)))))
          have q_19 : (va_up (pff ft t k) (k) (((pff ft t k) (k)) - (t))) = (pff ft t (k + 1)) := by first | exact pff_0 _ _ | exact pff_a (by omega) | exact pff_b (by omega) | exact pff_c (by omega) (by omega)
          have q_20 : bL (pfk kn ft fc t k) = bL (pfk kn ft fc t (k + 1)) := congrArg bL (by first | exact pfk_0 _ _ _ _ | exact pfk_turn (by omega) (by omega) | exact pfk_n (pfm_f (by omega)))
          have hP : va_P (dC, dI) vwCl [(s0, .inr (3, [.ref (s1), .ref (s2), .ref (s3), .ref (s4), .ref (s5), .ref (s6), .ref (s7), .int (iI (((n : Nat) : Int))), .long (bL (pfk kn ft fc t (k + 1)))])), (s1, .inl (cI, 48, .inl (aI (fd)))), (s2, .inl (cI, 48, .inl (aI (fs)))), (s3, .inl (cI, 48, .inl (aI (fl)))), (s4, .inl (cI, 48, .inl (aI (fh)))), (s5, .inl (cI, 48, .inl (aI (pff ft t (k + 1))))), (s6, .inl (cI, 48, .inl (aI (fc)))), (s7, .inl (cL, 5, .inr (.inl (aB (go)))))] H := P_eq hP (congr (congrArg List.cons (congrArg (fun z9 => ((s0 : Nat), (Sum.inr (3, z9) : va_E))) (show ([.ref (s1), .ref (s2), .ref (s3), .ref (s4), .ref (s5), .ref (s6), .ref (s7), .int (iI (((n : Nat) : Int))), .long (bL (pfk kn ft fc t k))] : List Value) = [.ref (s1), .ref (s2), .ref (s3), .ref (s4), .ref (s5), .ref (s6), .ref (s7), .int (iI (((n : Nat) : Int))), .long (bL (pfk kn ft fc t (k + 1)))] from congrArg (List.cons _) (congrArg (List.cons _) (congrArg (List.cons _) (congrArg (List.cons _) (congrArg (List.cons _) (congrArg (List.cons _) (congrArg (List.cons _) (congrArg (List.cons _) (congr (congrArg List.cons (congrArg Value.long q_20)) (rfl)))))))))))) (congrArg (List.cons _) (congrArg (List.cons _) (congrArg (List.cons _) (congrArg (List.cons _) (congr (congrArg List.cons (congrArg (fun z9 => ((s5 : Nat), (Sum.inl (cI, 48, Sum.inl (aI z9)) : va_E))) q_19)) (congrArg (List.cons _) (congrArg (List.cons _) (rfl)))))))))
          have hD : va_D A [(s0, .inr (3, [.ref (s1), .ref (s2), .ref (s3), .ref (s4), .ref (s5), .ref (s6), .ref (s7), .int (iI (((n : Nat) : Int))), .long (bL (pfk kn ft fc t (k + 1)))])), (s1, .inl (cI, 48, .inl (aI (fd)))), (s2, .inl (cI, 48, .inl (aI (fs)))), (s3, .inl (cI, 48, .inl (aI (fl)))), (s4, .inl (cI, 48, .inl (aI (fh)))), (s5, .inl (cI, 48, .inl (aI (pff ft t (k + 1))))), (s6, .inl (cI, 48, .inl (aI (fc)))), (s7, .inl (cL, 5, .inr (.inl (aB (go)))))] := D_same (w1 := [(s0, .inr (3, [.ref (s1), .ref (s2), .ref (s3), .ref (s4), .ref (s5), .ref (s6), .ref (s7), .int (iI (((n : Nat) : Int))), .long (bL (pfk kn ft fc t k))])), (s1, .inl (cI, 48, .inl (aI (fd)))), (s2, .inl (cI, 48, .inl (aI (fs)))), (s3, .inl (cI, 48, .inl (aI (fl)))), (s4, .inl (cI, 48, .inl (aI (fh)))), (s5, .inl (cI, 48, .inl (aI (va_up (pff ft t k) (k) (((pff ft t k) (k)) - (t)))))), (s6, .inl (cI, 48, .inl (aI (fc)))), (s7, .inl (cL, 5, .inr (.inl (aB (go)))))]) rfl hD
          exact ih4 (k + 1) H locs (by omega) (by omega) hP hD hS _ (lv_sub hl [1, 0, 2, 3] rfl)
  exact L4 ((n - (0)) + 1) (0) s.heap [] (Nat.lt_succ_self _) (Nat.zero_le _) hP hD hS _ (lv_sub hl [1, 0, 2, 3] rfl)

set_option maxHeartbeats 200000 in
set_option maxRecDepth 100000 in
theorem c_ja_fill_i (l : Launch) (dC : Nat → ClassId) (dI : Nat → Nat → Nat) (cI cL cZ : ClassId) (sz : Nat) (a0 N : Nat) (hN31 : N < 2 ^ 31) (f : Nat → Int) (v : Int) : Met l y_ja_fill_i (Cond.code y_ja_fill_i prog_18_method_103_code 4 none :: TB) ({ frames := 0, cells := 0, slots := 0, locals := 0 }) (va_Pc [.ref (a0), .int (iI (v))] (PS dC dI [(a0, .inl (cI, N, .inl (aI (f))))] [(cI, .int), (cL, .long), (cZ, .boolean)] sz)) (QW dC dI none [(a0, .inl (cI, N, .inl (aI (flf f v N))))] (va_A [(a0, .inl (cI, N, .inl (aI (f))))] sz)) 0 0 (va_A [(a0, .inl (cI, N, .inl (aI (f))))] sz) := by
  refine va_MetF (cc := prog_18_method_103_code) (maxL := 4) (ret := none) (by decide +kernel) rfl ?_
  intro p e s m args below meth c s₁ B hml hv
  obtain ⟨ha, hsz, hP, hK, hD0, hN⟩ := hv
  have hx := B.exec
  have hb := B.bytes
  have hr := B.returns
  have htb : ∀ w ∈ TB, w.before args s = true := fun w h => atoms_spec (ws := Cond.code y_ja_fill_i prog_18_method_103_code 4 none :: TB) B.pre w (List.mem_cons_of_mem _ h)
  have hown : s.vm.findClass "java/util/Arrays" = some m.cls := findClass_of_methodNamed B.named
  have hlocks := B.notSynchronized
  subst hsz
  have hD := hD0.self (sz := s.heap.size)
  generalize hAe : va_A [(a0, .inl (cI, N, .inl (aI (f))))] s.heap.size = A at hD ⊢
  have hA : ∀ q : Nat, s.heap.size ≤ q → A q := fun q h => by rw [← hAe]; exact Or.inr h
  have hS : va_S A s.heap s.heap [] := va_S.rf
  have hl := lv_entry ([.ref (a0), .int (iI (v))]) (n := 4) (Nat.le_of_ble_eq_true rfl)
  refine W.eq (g2 := F0 m 0 _ []) (by rw [ha]; exact lg_entry_eq m ([.ref (a0), .int (iI (v))]) 4) ?_
  generalize (lg_sl ([.ref (a0), .int (iI (v))]) ++ List.replicate (4 - (lg_sl ([.ref (a0), .int (iI (v))])).length) Slot.unset).toArray = ls at hl ⊢
  have hl : lv_has ls 4 [(0, .ref (a0)), (1, .int (iI (v)))] := hl
  refine lv_iconst (v := iI (0)) hx hb d_ja_fill_i_0 rfl ?_
  refine lv_istore_n hx hb d_ja_fill_i_1 rfl hl (by decide) rfl (fun ls hl => ?_)
  have hl : lv_has ls 4 [(2, .int (iI (0))), (0, .ref (a0)), (1, .int (iI (v)))] := hl
  refine lv_aload_n hx hb d_ja_fill_i_2 rfl (lv_at hl 1 rfl) ?_
  refine va_alen (v := iI (N)) hx hb hK hP 0 0 rfl rfl ((iI_n _).symm) d_ja_fill_i_3 ?_
  refine lv_istore_n hx hb d_ja_fill_i_4 rfl hl (by decide) rfl (fun ls hl => ?_)
  have hl : lv_has ls 4 [(3, .int (iI (N))), (2, .int (iI (0))), (0, .ref (a0)), (1, .int (iI (v)))] := hl
  have q_1 : iI (0) = iI ((((0) : Nat) : Int)) := congrArg iI (by omega)
  have q_2 : iI (N) = iI (((N : Nat) : Int)) := congrArg iI (by omega)
  have hl : lv_has ls 4 [(3, .int (iI (((N : Nat) : Int)))), (2, .int (iI ((((0) : Nat) : Int)))), (0, .ref (a0)), (1, .int (iI (v)))] := lv_eq9 hl (congr (congrArg List.cons (congrArg (fun z => ((3 : Nat), Value.int z)) q_2)) (congr (congrArg List.cons (congrArg (fun z => ((2 : Nat), Value.int z)) q_1)) (congr (congrArg List.cons (Eq.refl ((0 : Nat), Value.ref (a0)))) (congr (congrArg List.cons (Eq.refl ((1 : Nat), Value.int (iI (v))))) (rfl)))))
  have q_3 : (f) = (flf f v (0)) := by first | exact flf_0 _ _ | exact flf_s _ _ _
  have hP : va_P (dC, dI) vwCl [(a0, .inl (cI, N, .inl (aI (flf f v (0)))))] s.heap := P_eq hP (congr (congrArg List.cons (congrArg (fun z9 => ((a0 : Nat), (Sum.inl (cI, N, Sum.inl (aI z9)) : va_E))) q_3)) (rfl))
  have hD : va_D A [(a0, .inl (cI, N, .inl (aI (flf f v (0)))))] := D_same (w1 := [(a0, .inl (cI, N, .inl (aI (f))))]) rfl hD
  have L5 : ∀ (fu : Nat) (k : Nat) (H : Heap) (locs : List Loc), N - k < fu → k ≤ N → va_P (dC, dI) vwCl [(a0, .inl (cI, N, .inl (aI (flf f v k))))] H → va_D A [(a0, .inl (cI, N, .inl (aI (flf f v k))))] → va_S A s.heap H locs → ∀ ls : Array Slot, lv_has ls 4 [(2, .int (iI (((k : Nat) : Int)))), (3, .int (iI (((N : Nat) : Int)))), (0, .ref (a0)), (1, .int (iI (v)))] → W p l e (headSpec (Cond.code y_ja_fill_i prog_18_method_103_code 4 none :: TB) ({ frames := 0, cells := 0, slots := 0, locals := 0 })).room s m args below meth c H locs 0 0 (MQ below (QW dC dI none [(a0, .inl (cI, N, .inl (aI (flf f v N))))] A) args s 0 0 A) (F0 m 5 ls []) := by
    intro fu
    induction fu with
    | zero => intro k H locs hfu; exact absurd hfu (Nat.not_lt_zero _)
    | succ fu ih5 =>
      intro k H locs hfu hk hP hD hS ls hl
      refine lv_iload_n hx hb d_ja_fill_i_5 rfl (lv_at hl 0 rfl) ?_
      refine lv_iload_n hx hb d_ja_fill_i_6 rfl (lv_at hl 1 rfl) ?_
      refine xi_icmp_ge (tgt := 20) hx hb ⟨by omega, by omega⟩ ⟨by omega, by omega⟩ d_ja_fill_i_7 (by decide) (fun u_4 => ?_) (fun u_4 => ?_)
      · skip
        have : N = k := by omega
        subst this
        exact W.vret hx hb hr (fun t ht hW => ⟨rfl, by rw [ht]; exact hP, hS.F ht⟩) hS.2.2 d_ja_fill_i_20
      · skip
        refine lv_aload_n hx hb d_ja_fill_i_10 rfl (lv_at hl 2 rfl) ?_
        refine lv_iload_n hx hb d_ja_fill_i_11 rfl (lv_at hl 0 rfl) ?_
        refine lv_iload_n hx hb d_ja_fill_i_12 rfl (lv_at hl 3 rfl) ?_
        refine xa_iast (v := v) hx hb hK hP hD hS 0 0 rfl rfl (k) (by omega) (by omega) (by omega) d_ja_fill_i_13 (fun H locs hP hD hS => ?_)
        have hP : va_P (dC, dI) vwCl [(a0, .inl (cI, N, .inl (aI (va_up (flf f v k) (k) (v)))))] H := hP
        have hD : va_D A [(a0, .inl (cI, N, .inl (aI (va_up (flf f v k) (k) (v)))))] := hD
        refine lv_iinc (k := 0) (v := iI (((k : Nat) : Int) + 1)) hx hb d_ja_fill_i_14 hl rfl (iI_add _ _) (by decide) rfl (fun ls hl => ?_)
        have hl : lv_has ls 4 [(2, .int (iI (((k : Nat) : Int) + 1))), (3, .int (iI (((N : Nat) : Int)))), (0, .ref (a0)), (1, .int (iI (v)))] := hl
        refine lv_goto (tgt := 5) hx hb d_ja_fill_i_17 (by decide) ?_
        have q_5 : iI (((k : Nat) : Int) + 1) = iI ((((k + 1) : Nat) : Int)) := congrArg iI (by omega)
        have hl : lv_has ls 4 [(2, .int (iI ((((k + 1) : Nat) : Int)))), (3, .int (iI (((N : Nat) : Int)))), (0, .ref (a0)), (1, .int (iI (v)))] := lv_eq9 hl (congr (congrArg List.cons (congrArg (fun z => ((2 : Nat), Value.int z)) q_5)) (congr (congrArg List.cons (Eq.refl ((3 : Nat), Value.int (iI (((N : Nat) : Int)))))) (congr (congrArg List.cons (Eq.refl ((0 : Nat), Value.ref (a0)))) (congr (congrArg List.cons (Eq.refl ((1 : Nat), Value.int (iI (v))))) (rfl)))))
        have q_6 : (va_up (flf f v k) (k) (v)) = (flf f v (k + 1)) := by first | exact flf_0 _ _ | exact flf_s _ _ _
        have hP : va_P (dC, dI) vwCl [(a0, .inl (cI, N, .inl (aI (flf f v (k + 1)))))] H := P_eq hP (congr (congrArg List.cons (congrArg (fun z9 => ((a0 : Nat), (Sum.inl (cI, N, Sum.inl (aI z9)) : va_E))) q_6)) (rfl))
        have hD : va_D A [(a0, .inl (cI, N, .inl (aI (flf f v (k + 1)))))] := D_same (w1 := [(a0, .inl (cI, N, .inl (aI (va_up (flf f v k) (k) (v)))))]) rfl hD
        exact ih5 (k + 1) H locs (by omega) (by omega) hP hD hS _ (lv_sub hl [0, 1, 2, 3] rfl)
  exact L5 ((N - (0)) + 1) (0) s.heap [] (Nat.lt_succ_self _) (Nat.zero_le _) hP hD hS _ (lv_sub hl [1, 0, 2, 3] rfl)

set_option maxHeartbeats 200000 in
set_option maxRecDepth 100000 in
theorem c_ja_fill_l (l : Launch) (dC : Nat → ClassId) (dI : Nat → Nat → Nat) (cI cL cZ : ClassId) (sz : Nat) (a0 N : Nat) (hN31 : N < 2 ^ 31) (f : Nat → Nat → Bool) (v : Nat → Bool) : Met l y_ja_fill_l (Cond.code y_ja_fill_l prog_18_method_101_code 5 none :: TB) ({ frames := 0, cells := 0, slots := 0, locals := 0 }) (va_Pc [.ref (a0), .long (bL (v))] (PS dC dI [(a0, .inl (cL, N, .inr (.inl (aB (f)))))] [(cI, .int), (cL, .long), (cZ, .boolean)] sz)) (QW dC dI none [(a0, .inl (cL, N, .inr (.inl (aB (flf f v N)))))] (va_A [(a0, .inl (cL, N, .inr (.inl (aB (f)))))] sz)) 0 0 (va_A [(a0, .inl (cL, N, .inr (.inl (aB (f)))))] sz) := by
  refine va_MetF (cc := prog_18_method_101_code) (maxL := 5) (ret := none) (by decide +kernel) rfl ?_
  intro p e s m args below meth c s₁ B hml hv
  obtain ⟨ha, hsz, hP, hK, hD0, hN⟩ := hv
  have hx := B.exec
  have hb := B.bytes
  have hr := B.returns
  have htb : ∀ w ∈ TB, w.before args s = true := fun w h => atoms_spec (ws := Cond.code y_ja_fill_l prog_18_method_101_code 5 none :: TB) B.pre w (List.mem_cons_of_mem _ h)
  have hown : s.vm.findClass "java/util/Arrays" = some m.cls := findClass_of_methodNamed B.named
  have hlocks := B.notSynchronized
  subst hsz
  have hD := hD0.self (sz := s.heap.size)
  generalize hAe : va_A [(a0, .inl (cL, N, .inr (.inl (aB (f)))))] s.heap.size = A at hD ⊢
  have hA : ∀ q : Nat, s.heap.size ≤ q → A q := fun q h => by rw [← hAe]; exact Or.inr h
  have hS : va_S A s.heap s.heap [] := va_S.rf
  have hl := lv_entry ([.ref (a0), .long (bL (v))]) (n := 5) (Nat.le_of_ble_eq_true rfl)
  refine W.eq (g2 := F0 m 0 _ []) (by rw [ha]; exact lg_entry_eq m ([.ref (a0), .long (bL (v))]) 5) ?_
  generalize (lg_sl ([.ref (a0), .long (bL (v))]) ++ List.replicate (5 - (lg_sl ([.ref (a0), .long (bL (v))])).length) Slot.unset).toArray = ls at hl ⊢
  have hl : lv_has ls 5 [(0, .ref (a0)), (1, .long (bL (v)))] := hl
  refine lv_iconst (v := iI (0)) hx hb d_ja_fill_l_0 rfl ?_
  refine lv_istore_n hx hb d_ja_fill_l_1 rfl hl (by decide) rfl (fun ls hl => ?_)
  have hl : lv_has ls 5 [(3, .int (iI (0))), (0, .ref (a0)), (1, .long (bL (v)))] := hl
  refine lv_aload_n hx hb d_ja_fill_l_2 rfl (lv_at hl 1 rfl) ?_
  refine va_alen (v := iI (N)) hx hb hK hP 0 1 rfl rfl ((iI_n _).symm) d_ja_fill_l_3 ?_
  refine lv_istore hx hb d_ja_fill_l_4 hl (by decide) rfl (fun ls hl => ?_)
  have hl : lv_has ls 5 [(4, .int (iI (N))), (3, .int (iI (0))), (0, .ref (a0)), (1, .long (bL (v)))] := hl
  have q_1 : iI (0) = iI ((((0) : Nat) : Int)) := congrArg iI (by omega)
  have q_2 : iI (N) = iI (((N : Nat) : Int)) := congrArg iI (by omega)
  have hl : lv_has ls 5 [(4, .int (iI (((N : Nat) : Int)))), (3, .int (iI ((((0) : Nat) : Int)))), (0, .ref (a0)), (1, .long (bL (v)))] := lv_eq9 hl (congr (congrArg List.cons (congrArg (fun z => ((4 : Nat), Value.int z)) q_2)) (congr (congrArg List.cons (congrArg (fun z => ((3 : Nat), Value.int z)) q_1)) (congr (congrArg List.cons (Eq.refl ((0 : Nat), Value.ref (a0)))) (congr (congrArg List.cons (Eq.refl ((1 : Nat), Value.long (bL (v))))) (rfl)))))
  have q_3 : (f) = (flf f v (0)) := by first | exact flf_0 _ _ | exact flf_s _ _ _
  have hP : va_P (dC, dI) vwCl [(a0, .inl (cL, N, .inr (.inl (aB (flf f v (0))))))] s.heap := P_eq hP (congr (congrArg List.cons (congrArg (fun z9 => ((a0 : Nat), (Sum.inl (cL, N, Sum.inr (Sum.inl (aB z9))) : va_E))) q_3)) (rfl))
  have hD : va_D A [(a0, .inl (cL, N, .inr (.inl (aB (flf f v (0))))))] := D_same (w1 := [(a0, .inl (cL, N, .inr (.inl (aB (f)))))]) rfl hD
  have L6 : ∀ (fu : Nat) (k : Nat) (H : Heap) (locs : List Loc), N - k < fu → k ≤ N → va_P (dC, dI) vwCl [(a0, .inl (cL, N, .inr (.inl (aB (flf f v k)))))] H → va_D A [(a0, .inl (cL, N, .inr (.inl (aB (flf f v k)))))] → va_S A s.heap H locs → ∀ ls : Array Slot, lv_has ls 5 [(3, .int (iI (((k : Nat) : Int)))), (4, .int (iI (((N : Nat) : Int)))), (0, .ref (a0)), (1, .long (bL (v)))] → W p l e (headSpec (Cond.code y_ja_fill_l prog_18_method_101_code 5 none :: TB) ({ frames := 0, cells := 0, slots := 0, locals := 0 })).room s m args below meth c H locs 0 0 (MQ below (QW dC dI none [(a0, .inl (cL, N, .inr (.inl (aB (flf f v N)))))] A) args s 0 0 A) (F0 m 6 ls []) := by
    intro fu
    induction fu with
    | zero => intro k H locs hfu; exact absurd hfu (Nat.not_lt_zero _)
    | succ fu ih6 =>
      intro k H locs hfu hk hP hD hS ls hl
      refine lv_iload_n hx hb d_ja_fill_l_6 rfl (lv_at hl 0 rfl) ?_
      refine lv_iload hx hb d_ja_fill_l_7 (lv_at hl 1 rfl) ?_
      refine xi_icmp_ge (tgt := 22) hx hb ⟨by omega, by omega⟩ ⟨by omega, by omega⟩ d_ja_fill_l_9 (by decide) (fun u_4 => ?_) (fun u_4 => ?_)
      · skip
        have : N = k := by omega
        subst this
        exact W.vret hx hb hr (fun t ht hW => ⟨rfl, by rw [ht]; exact hP, hS.F ht⟩) hS.2.2 d_ja_fill_l_22
      · skip
        refine lv_aload_n hx hb d_ja_fill_l_12 rfl (lv_at hl 2 rfl) ?_
        refine lv_iload_n hx hb d_ja_fill_l_13 rfl (lv_at hl 0 rfl) ?_
        refine lv_lload_n hx hb d_ja_fill_l_14 rfl (lv_at hl 3 rfl) ?_
        refine xa_bast (v := v) hx hb hK hP hD hS 0 1 rfl rfl (k) (by omega) (by omega) (by omega) d_ja_fill_l_15 (fun H locs hP hD hS => ?_)
        have hP : va_P (dC, dI) vwCl [(a0, .inl (cL, N, .inr (.inl (aB (va_up (flf f v k) (k) (v))))))] H := hP
        have hD : va_D A [(a0, .inl (cL, N, .inr (.inl (aB (va_up (flf f v k) (k) (v))))))] := hD
        refine lv_iinc (k := 0) (v := iI (((k : Nat) : Int) + 1)) hx hb d_ja_fill_l_16 hl rfl (iI_add _ _) (by decide) rfl (fun ls hl => ?_)
        have hl : lv_has ls 5 [(3, .int (iI (((k : Nat) : Int) + 1))), (4, .int (iI (((N : Nat) : Int)))), (0, .ref (a0)), (1, .long (bL (v)))] := hl
        refine lv_goto (tgt := 6) hx hb d_ja_fill_l_19 (by decide) ?_
        have q_5 : iI (((k : Nat) : Int) + 1) = iI ((((k + 1) : Nat) : Int)) := congrArg iI (by omega)
        have hl : lv_has ls 5 [(3, .int (iI ((((k + 1) : Nat) : Int)))), (4, .int (iI (((N : Nat) : Int)))), (0, .ref (a0)), (1, .long (bL (v)))] := lv_eq9 hl (congr (congrArg List.cons (congrArg (fun z => ((3 : Nat), Value.int z)) q_5)) (congr (congrArg List.cons (Eq.refl ((4 : Nat), Value.int (iI (((N : Nat) : Int)))))) (congr (congrArg List.cons (Eq.refl ((0 : Nat), Value.ref (a0)))) (congr (congrArg List.cons (Eq.refl ((1 : Nat), Value.long (bL (v))))) (rfl)))))
        have q_6 : (va_up (flf f v k) (k) (v)) = (flf f v (k + 1)) := by first | exact flf_0 _ _ | exact flf_s _ _ _
        have hP : va_P (dC, dI) vwCl [(a0, .inl (cL, N, .inr (.inl (aB (flf f v (k + 1))))))] H := P_eq hP (congr (congrArg List.cons (congrArg (fun z9 => ((a0 : Nat), (Sum.inl (cL, N, Sum.inr (Sum.inl (aB z9))) : va_E))) q_6)) (rfl))
        have hD : va_D A [(a0, .inl (cL, N, .inr (.inl (aB (flf f v (k + 1))))))] := D_same (w1 := [(a0, .inl (cL, N, .inr (.inl (aB (va_up (flf f v k) (k) (v))))))]) rfl hD
        exact ih6 (k + 1) H locs (by omega) (by omega) hP hD hS _ (lv_sub hl [0, 1, 2, 3] rfl)
  exact L6 ((N - (0)) + 1) (0) s.heap [] (Nat.lt_succ_self _) (Nat.zero_le _) hP hD hS _ (lv_sub hl [1, 0, 2, 3] rfl)

set_option maxHeartbeats 200000 in
set_option maxRecDepth 100000 in
theorem c_st_dropPulls (l : Launch) (dC : Nat → ClassId) (dI : Nat → Nat → Nat) (cI cL cZ : ClassId) (sz : Nat) (s0 s1 s2 s3 s4 s5 s6 s7 : Nat) (fd fs fl fh ft fc : Nat → Int) (go : Nat → Nat → Bool) (n : Nat) (kn : Nat → Bool) (hn : n ≤ 48) : Met l y_st_dropPulls (Cond.code y_st_dropPulls prog_5_method_10_code 1 none :: TB) ({ frames := 1, cells := 0, slots := 0, locals := 23 }) (va_Pc [.ref (s0)] (PS dC dI [(s0, .inr (3, [.ref (s1), .ref (s2), .ref (s3), .ref (s4), .ref (s5), .ref (s6), .ref (s7), .int (iI (((n : Nat) : Int))), .long (bL (kn))])), (s1, .inl (cI, 48, .inl (aI (fd)))), (s2, .inl (cI, 48, .inl (aI (fs)))), (s3, .inl (cI, 48, .inl (aI (fl)))), (s4, .inl (cI, 48, .inl (aI (fh)))), (s5, .inl (cI, 48, .inl (aI (ft)))), (s6, .inl (cI, 48, .inl (aI (fc)))), (s7, .inl (cL, 5, .inr (.inl (aB (go)))))] [(cI, .int), (cL, .long), (cZ, .boolean)] sz)) (QW dC dI none [(s0, .inr (3, [.ref (s1), .ref (s2), .ref (s3), .ref (s4), .ref (s5), .ref (s6), .ref (s7), .int (iI (((n : Nat) : Int))), .long (bL (kn))])), (s1, .inl (cI, 48, .inl (aI (fd)))), (s2, .inl (cI, 48, .inl (aI (fs)))), (s3, .inl (cI, 48, .inl (aI (fl)))), (s4, .inl (cI, 48, .inl (aI (fh)))), (s5, .inl (cI, 48, .inl (aI (flf ft 0 48)))), (s6, .inl (cI, 48, .inl (aI (fc)))), (s7, .inl (cL, 5, .inr (.inl (aB (go)))))] (va_A [(s0, .inr (3, [.ref (s1), .ref (s2), .ref (s3), .ref (s4), .ref (s5), .ref (s6), .ref (s7), .int (iI (((n : Nat) : Int))), .long (bL (kn))])), (s1, .inl (cI, 48, .inl (aI (fd)))), (s2, .inl (cI, 48, .inl (aI (fs)))), (s3, .inl (cI, 48, .inl (aI (fl)))), (s4, .inl (cI, 48, .inl (aI (fh)))), (s5, .inl (cI, 48, .inl (aI (ft)))), (s6, .inl (cI, 48, .inl (aI (fc)))), (s7, .inl (cL, 5, .inr (.inl (aB (go)))))] sz)) 0 0 (va_A [(s0, .inr (3, [.ref (s1), .ref (s2), .ref (s3), .ref (s4), .ref (s5), .ref (s6), .ref (s7), .int (iI (((n : Nat) : Int))), .long (bL (kn))])), (s1, .inl (cI, 48, .inl (aI (fd)))), (s2, .inl (cI, 48, .inl (aI (fs)))), (s3, .inl (cI, 48, .inl (aI (fl)))), (s4, .inl (cI, 48, .inl (aI (fh)))), (s5, .inl (cI, 48, .inl (aI (ft)))), (s6, .inl (cI, 48, .inl (aI (fc)))), (s7, .inl (cL, 5, .inr (.inl (aB (go)))))] sz) := by
  refine Met.ofW (cc := prog_5_method_10_code) (maxL := 1) (ret := none) (by decide) rfl ?_
  intro p e s m args below meth c s₁ B hml hv
  obtain ⟨ha, hsz, hP, hK, hD0, hN⟩ := hv
  have hx := B.exec
  have hb := B.bytes
  have hr := B.returns
  have htb : ∀ w ∈ TB, w.before args s = true := fun w h => atoms_spec (ws := Cond.code y_st_dropPulls prog_5_method_10_code 1 none :: TB) B.pre w (List.mem_cons_of_mem _ h)
  have hown : s.vm.findClass "OrganConsole$Stops" = some m.cls := findClass_of_methodNamed B.named
  have hlocks := B.notSynchronized
  subst hsz
  have hD := hD0.self (sz := s.heap.size)
  generalize hAe : va_A [(s0, .inr (3, [.ref (s1), .ref (s2), .ref (s3), .ref (s4), .ref (s5), .ref (s6), .ref (s7), .int (iI (((n : Nat) : Int))), .long (bL (kn))])), (s1, .inl (cI, 48, .inl (aI (fd)))), (s2, .inl (cI, 48, .inl (aI (fs)))), (s3, .inl (cI, 48, .inl (aI (fl)))), (s4, .inl (cI, 48, .inl (aI (fh)))), (s5, .inl (cI, 48, .inl (aI (ft)))), (s6, .inl (cI, 48, .inl (aI (fc)))), (s7, .inl (cL, 5, .inr (.inl (aB (go)))))] s.heap.size = A at hD ⊢
  have hA : ∀ q : Nat, s.heap.size ≤ q → A q := fun q h => by rw [← hAe]; exact Or.inr h
  have hS : va_S A s.heap s.heap [] := va_S.rf
  have hl := lv_entry ([.ref (s0)]) (n := 1) (Nat.le_of_ble_eq_true rfl)
  refine W.eq (g2 := F0 m 0 _ []) (by rw [ha]; exact lg_entry_eq m ([.ref (s0)]) 1) ?_
  generalize (lg_sl ([.ref (s0)]) ++ List.replicate (1 - (lg_sl ([.ref (s0)])).length) Slot.unset).toArray = ls at hl ⊢
  have hl : lv_has ls 1 [(0, .ref (s0))] := hl
  refine lv_aload_n hx hb d_st_dropPulls_0 rfl (lv_at hl 0 rfl) ?_
  refine va_get (D := (dC, dI)) (ci := 3) (v := .ref (s5)) (C := "OrganConsole$Stops") (T := T_st) (N := 9) hx hb htb in_st hown hK hP 0 rfl rfl 4 (by decide) (htb _ tw_103) (fun _ h9 => h9) rfl d_st_dropPulls_1 ?_
  refine lv_iconst (v := iI (0)) hx hb d_st_dropPulls_4 rfl ?_
  have hFc := va_free (wc := [(s5, .inl (cI, 48, .inl (aI (ft))))]) hD hS hA [5] rfl
  refine wcS hx hb hml hown htb (c_ja_fill_i l dC dI cI cL cZ s.heap.size s5 48 (by decide) ft 0) tw_268 tw_269 tw_50 tw_270 2 (by decide +kernel) rfl rfl ⟨Nat.le_of_ble_eq_true rfl, Nat.le_of_ble_eq_true rfl⟩ ⟨Nat.zero_le _, Nat.zero_le _⟩ [.ref (s5), .int (iI (0))] (PS_S (ws := [(s5, .inl (cI, 48, .inl (aI (ft))))]) (hP.sub [5] rfl) hK (hD.sub [5] (by decide) rfl) hN) rfl hl.1 rfl (Nat.le_of_ble_eq_true rfl) d_st_dropPulls_5 hS hFc (fun H1 locs hP1 hz1 hk1 hS => ?_)
  obtain ⟨hP, hD⟩ := wc_join (wc := [(s5, .inl (cI, 48, .inl (aI (ft))))]) (w2 := [(s0, .inr (3, [.ref (s1), .ref (s2), .ref (s3), .ref (s4), .ref (s5), .ref (s6), .ref (s7), .int (iI (((n : Nat) : Int))), .long (bL (kn))])), (s1, .inl (cI, 48, .inl (aI (fd)))), (s2, .inl (cI, 48, .inl (aI (fs)))), (s3, .inl (cI, 48, .inl (aI (fl)))), (s4, .inl (cI, 48, .inl (aI (fh)))), (s5, .inl (cI, 48, .inl (aI (flf ft 0 48)))), (s6, .inl (cI, 48, .inl (aI (fc)))), (s7, .inl (cL, 5, .inr (.inl (aB (go)))))]) (wr := [(s0, .inr (3, [.ref (s1), .ref (s2), .ref (s3), .ref (s4), .ref (s5), .ref (s6), .ref (s7), .int (iI (((n : Nat) : Int))), .long (bL (kn))])), (s1, .inl (cI, 48, .inl (aI (fd)))), (s2, .inl (cI, 48, .inl (aI (fs)))), (s3, .inl (cI, 48, .inl (aI (fl)))), (s4, .inl (cI, 48, .inl (aI (fh)))), (s6, .inl (cI, 48, .inl (aI (fc)))), (s7, .inl (cL, 5, .inr (.inl (aB (go)))))]) (w1 := [(s5, .inl (cI, 48, .inl (aI (flf ft 0 48))))]) hP hD [5] [0, 1, 2, 3, 4, 6, 7] [0, 1, 2, 3, 4, 7, 5, 6] rfl rfl (by decide) (by decide) (by decide) rfl hk1 hFc hP1 rfl rfl (by decide)
  generalize H1 = H at hP hS ⊢
  exact W.vret hx hb hr (fun t ht hW => ⟨rfl, by rw [ht]; exact hP, hS.F ht⟩) hS.2.2 d_st_dropPulls_8

set_option maxHeartbeats 200000 in
set_option maxRecDepth 100000 in
theorem c_ke_addCoupler (l : Launch) (dC : Nat → ClassId) (dI : Nat → Nat → Nat) (cI cL cZ : ClassId) (sz : Nat) (k0 k1 k2 k3 k4 : Nat) (g : Nat → Nat → Bool) (fr tt sh : Nat → Int) (nc : Nat) (tb : Nat → Bool) (hok : kwOk g fr tt sh nc) (a b c9 : Int) (hn8 : nc < 16) : Met l y_ke_addCoupler (Cond.code y_ke_addCoupler prog_3_method_2_code 5 (some .int) :: TB) ({ frames := 0, cells := 0, slots := 0, locals := 0 }) (va_Pc [.ref (k0), .int (iI (a)), .int (iI (b)), .int (iI (c9))] (PS dC dI [(k0, .inr (1, [.ref (k1), .ref (k2), .ref (k3), .ref (k4), .int (iI (((nc : Nat) : Int))), .long (bL (tb))])), (k1, .inl (cL, 5, .inr (.inl (aB (g))))), (k2, .inl (cI, 16, .inl (aI (fr)))), (k3, .inl (cI, 16, .inl (aI (tt)))), (k4, .inl (cI, 16, .inl (aI (sh))))] [(cI, .int), (cL, .long), (cZ, .boolean)] sz)) (QW dC dI (some (.int (iI (((nc : Nat) : Int))))) [(k0, .inr (1, [.ref (k1), .ref (k2), .ref (k3), .ref (k4), .int (iI (((nc + 1 : Nat) : Int))), .long (bL (tb))])), (k1, .inl (cL, 5, .inr (.inl (aB (g))))), (k2, .inl (cI, 16, .inl (aI (va_up fr nc a)))), (k3, .inl (cI, 16, .inl (aI (va_up tt nc b)))), (k4, .inl (cI, 16, .inl (aI (va_up sh nc c9))))] (va_A [(k0, .inr (1, [.ref (k1), .ref (k2), .ref (k3), .ref (k4), .int (iI (((nc : Nat) : Int))), .long (bL (tb))])), (k1, .inl (cL, 5, .inr (.inl (aB (g))))), (k2, .inl (cI, 16, .inl (aI (fr)))), (k3, .inl (cI, 16, .inl (aI (tt)))), (k4, .inl (cI, 16, .inl (aI (sh))))] sz)) 0 0 (va_A [(k0, .inr (1, [.ref (k1), .ref (k2), .ref (k3), .ref (k4), .int (iI (((nc : Nat) : Int))), .long (bL (tb))])), (k1, .inl (cL, 5, .inr (.inl (aB (g))))), (k2, .inl (cI, 16, .inl (aI (fr)))), (k3, .inl (cI, 16, .inl (aI (tt)))), (k4, .inl (cI, 16, .inl (aI (sh))))] sz) := by
  refine Met.ofW (cc := prog_3_method_2_code) (maxL := 5) (ret := (some .int)) (by decide) rfl ?_
  intro p e s m args below meth c s₁ B hml hv
  obtain ⟨ha, hsz, hP, hK, hD0, hN⟩ := hv
  have hx := B.exec
  have hb := B.bytes
  have hr := B.returns
  have htb : ∀ w ∈ TB, w.before args s = true := fun w h => atoms_spec (ws := Cond.code y_ke_addCoupler prog_3_method_2_code 5 (some .int) :: TB) B.pre w (List.mem_cons_of_mem _ h)
  have hown : s.vm.findClass "OrganConsole$Keywork" = some m.cls := findClass_of_methodNamed B.named
  have hlocks := B.notSynchronized
  subst hsz
  have hD := hD0.self (sz := s.heap.size)
  generalize hAe : va_A [(k0, .inr (1, [.ref (k1), .ref (k2), .ref (k3), .ref (k4), .int (iI (((nc : Nat) : Int))), .long (bL (tb))])), (k1, .inl (cL, 5, .inr (.inl (aB (g))))), (k2, .inl (cI, 16, .inl (aI (fr)))), (k3, .inl (cI, 16, .inl (aI (tt)))), (k4, .inl (cI, 16, .inl (aI (sh))))] s.heap.size = A at hD ⊢
  have hA : ∀ q : Nat, s.heap.size ≤ q → A q := fun q h => by rw [← hAe]; exact Or.inr h
  have hS : va_S A s.heap s.heap [] := va_S.rf
  have hl := lv_entry ([.ref (k0), .int (iI (a)), .int (iI (b)), .int (iI (c9))]) (n := 5) (Nat.le_of_ble_eq_true rfl)
  refine W.eq (g2 := F0 m 0 _ []) (by rw [ha]; exact lg_entry_eq m ([.ref (k0), .int (iI (a)), .int (iI (b)), .int (iI (c9))]) 5) ?_
  generalize (lg_sl ([.ref (k0), .int (iI (a)), .int (iI (b)), .int (iI (c9))]) ++ List.replicate (5 - (lg_sl ([.ref (k0), .int (iI (a)), .int (iI (b)), .int (iI (c9))])).length) Slot.unset).toArray = ls at hl ⊢
  have hl : lv_has ls 5 [(0, .ref (k0)), (1, .int (iI (a))), (2, .int (iI (b))), (3, .int (iI (c9)))] := hl
  refine lv_aload_n hx hb d_ke_addCoupler_0 rfl (lv_at hl 0 rfl) ?_
  refine va_get (D := (dC, dI)) (ci := 1) (v := .int (iI (((nc : Nat) : Int)))) (C := "OrganConsole$Keywork") (T := T_ke) (N := 6) hx hb htb in_ke hown hK hP 0 rfl rfl 4 (by decide) (htb _ tw_70) (fun _ h9 => h9) rfl d_ke_addCoupler_1 ?_
  refine lv_istore hx hb d_ke_addCoupler_4 hl (by decide) rfl (fun ls hl => ?_)
  have hl : lv_has ls 5 [(4, .int (iI (((nc : Nat) : Int)))), (0, .ref (k0)), (1, .int (iI (a))), (2, .int (iI (b))), (3, .int (iI (c9)))] := hl
  refine lv_aload_n hx hb d_ke_addCoupler_6 rfl (lv_at hl 1 rfl) ?_
  refine va_get (D := (dC, dI)) (ci := 1) (v := .ref (k2)) (C := "OrganConsole$Keywork") (T := T_ke) (N := 6) hx hb htb in_ke hown hK hP 0 rfl rfl 1 (by decide) (htb _ tw_67) (fun _ h9 => h9) rfl d_ke_addCoupler_7 ?_
  refine lv_iload hx hb d_ke_addCoupler_10 (lv_at hl 0 rfl) ?_
  refine lv_iload_n hx hb d_ke_addCoupler_12 rfl (lv_at hl 2 rfl) ?_
  refine xa_iast (v := a) hx hb hK hP hD hS 2 0 rfl rfl (nc) (by omega) (by omega) (by decide) d_ke_addCoupler_13 (fun H locs hP hD hS => ?_)
  have hP : va_P (dC, dI) vwCl [(k0, .inr (1, [.ref (k1), .ref (k2), .ref (k3), .ref (k4), .int (iI (((nc : Nat) : Int))), .long (bL (tb))])), (k1, .inl (cL, 5, .inr (.inl (aB (g))))), (k2, .inl (cI, 16, .inl (aI (va_up (fr) (nc) (a))))), (k3, .inl (cI, 16, .inl (aI (tt)))), (k4, .inl (cI, 16, .inl (aI (sh))))] H := hP
  have hD : va_D A [(k0, .inr (1, [.ref (k1), .ref (k2), .ref (k3), .ref (k4), .int (iI (((nc : Nat) : Int))), .long (bL (tb))])), (k1, .inl (cL, 5, .inr (.inl (aB (g))))), (k2, .inl (cI, 16, .inl (aI (va_up (fr) (nc) (a))))), (k3, .inl (cI, 16, .inl (aI (tt)))), (k4, .inl (cI, 16, .inl (aI (sh))))] := hD
  refine lv_aload_n hx hb d_ke_addCoupler_14 rfl (lv_at hl 1 rfl) ?_
  refine va_get (D := (dC, dI)) (ci := 1) (v := .ref (k3)) (C := "OrganConsole$Keywork") (T := T_ke) (N := 6) hx hb htb in_ke hown hK hP 0 rfl rfl 2 (by decide) (htb _ tw_68) (fun _ h9 => h9) rfl d_ke_addCoupler_15 ?_
  refine lv_iload hx hb d_ke_addCoupler_18 (lv_at hl 0 rfl) ?_
  refine lv_iload_n hx hb d_ke_addCoupler_20 rfl (lv_at hl 3 rfl) ?_
  refine xa_iast (v := b) hx hb hK hP hD hS 3 0 rfl rfl (nc) (by omega) (by omega) (by decide) d_ke_addCoupler_21 (fun H locs hP hD hS => ?_)
  have hP : va_P (dC, dI) vwCl [(k0, .inr (1, [.ref (k1), .ref (k2), .ref (k3), .ref (k4), .int (iI (((nc : Nat) : Int))), .long (bL (tb))])), (k1, .inl (cL, 5, .inr (.inl (aB (g))))), (k2, .inl (cI, 16, .inl (aI (va_up (fr) (nc) (a))))), (k3, .inl (cI, 16, .inl (aI (va_up (tt) (nc) (b))))), (k4, .inl (cI, 16, .inl (aI (sh))))] H := hP
  have hD : va_D A [(k0, .inr (1, [.ref (k1), .ref (k2), .ref (k3), .ref (k4), .int (iI (((nc : Nat) : Int))), .long (bL (tb))])), (k1, .inl (cL, 5, .inr (.inl (aB (g))))), (k2, .inl (cI, 16, .inl (aI (va_up (fr) (nc) (a))))), (k3, .inl (cI, 16, .inl (aI (va_up (tt) (nc) (b))))), (k4, .inl (cI, 16, .inl (aI (sh))))] := hD
  refine lv_aload_n hx hb d_ke_addCoupler_22 rfl (lv_at hl 1 rfl) ?_
  refine va_get (D := (dC, dI)) (ci := 1) (v := .ref (k4)) (C := "OrganConsole$Keywork") (T := T_ke) (N := 6) hx hb htb in_ke hown hK hP 0 rfl rfl 3 (by decide) (htb _ tw_69) (fun _ h9 => h9) rfl d_ke_addCoupler_23 ?_
  refine lv_iload hx hb d_ke_addCoupler_26 (lv_at hl 0 rfl) ?_
  refine lv_iload_n hx hb d_ke_addCoupler_28 rfl (lv_at hl 4 rfl) ?_
  refine xa_iast (v := c9) hx hb hK hP hD hS 4 0 rfl rfl (nc) (by omega) (by omega) (by decide) d_ke_addCoupler_29 (fun H locs hP hD hS => ?_)
  have hP : va_P (dC, dI) vwCl [(k0, .inr (1, [.ref (k1), .ref (k2), .ref (k3), .ref (k4), .int (iI (((nc : Nat) : Int))), .long (bL (tb))])), (k1, .inl (cL, 5, .inr (.inl (aB (g))))), (k2, .inl (cI, 16, .inl (aI (va_up (fr) (nc) (a))))), (k3, .inl (cI, 16, .inl (aI (va_up (tt) (nc) (b))))), (k4, .inl (cI, 16, .inl (aI (va_up (sh) (nc) (c9)))))] H := hP
  have hD : va_D A [(k0, .inr (1, [.ref (k1), .ref (k2), .ref (k3), .ref (k4), .int (iI (((nc : Nat) : Int))), .long (bL (tb))])), (k1, .inl (cL, 5, .inr (.inl (aB (g))))), (k2, .inl (cI, 16, .inl (aI (va_up (fr) (nc) (a))))), (k3, .inl (cI, 16, .inl (aI (va_up (tt) (nc) (b))))), (k4, .inl (cI, 16, .inl (aI (va_up (sh) (nc) (c9)))))] := hD
  refine lv_aload_n hx hb d_ke_addCoupler_30 rfl (lv_at hl 1 rfl) ?_
  refine lv_dup hx hb d_ke_addCoupler_31 rfl ?_
  refine va_get (D := (dC, dI)) (ci := 1) (v := .int (iI (((nc : Nat) : Int)))) (C := "OrganConsole$Keywork") (T := T_ke) (N := 6) hx hb htb in_ke hown hK hP 0 rfl rfl 4 (by decide) (htb _ tw_70) (fun _ h9 => h9) rfl d_ke_addCoupler_32 ?_
  refine lv_iconst (v := iI (1)) hx hb d_ke_addCoupler_35 rfl ?_
  refine xi_add hx hb d_ke_addCoupler_36 ?_
  refine va_put (D := (dC, dI)) (ci := 1) (v := .int (iI ((((nc : Nat) : Int)) + (1)))) (ty := .int) (C := "OrganConsole$Keywork") (T := T_ke) (N := 6) hx hb htb in_ke ty_ke ty_ke_ok nm_ke hown hK hP hD hS 0 rfl rfl 4 (by decide) (htb _ tw_70) (fun _ h9 => h9) rfl (by decide +kernel) rfl rfl (Nat.le_of_ble_eq_true rfl) d_ke_addCoupler_37 (fun H locs hP hD hS => ?_)
  have hP : va_P (dC, dI) vwCl [(k0, .inr (1, [.ref (k1), .ref (k2), .ref (k3), .ref (k4), .int (iI ((((nc : Nat) : Int)) + (1))), .long (bL (tb))])), (k1, .inl (cL, 5, .inr (.inl (aB (g))))), (k2, .inl (cI, 16, .inl (aI (va_up (fr) (nc) (a))))), (k3, .inl (cI, 16, .inl (aI (va_up (tt) (nc) (b))))), (k4, .inl (cI, 16, .inl (aI (va_up (sh) (nc) (c9)))))] H := hP
  have hD : va_D A [(k0, .inr (1, [.ref (k1), .ref (k2), .ref (k3), .ref (k4), .int (iI ((((nc : Nat) : Int)) + (1))), .long (bL (tb))])), (k1, .inl (cL, 5, .inr (.inl (aB (g))))), (k2, .inl (cI, 16, .inl (aI (va_up (fr) (nc) (a))))), (k3, .inl (cI, 16, .inl (aI (va_up (tt) (nc) (b))))), (k4, .inl (cI, 16, .inl (aI (va_up (sh) (nc) (c9)))))] := hD
  refine lv_iload hx hb d_ke_addCoupler_40 (lv_at hl 0 rfl) ?_
  have q_1 : iI ((((nc : Nat) : Int)) + (1)) = iI (((nc + 1 : Nat) : Int)) := congrArg iI (by omega)
  have hP : va_P (dC, dI) vwCl [(k0, .inr (1, [.ref (k1), .ref (k2), .ref (k3), .ref (k4), .int (iI (((nc + 1 : Nat) : Int))), .long (bL (tb))])), (k1, .inl (cL, 5, .inr (.inl (aB (g))))), (k2, .inl (cI, 16, .inl (aI (va_up fr nc a)))), (k3, .inl (cI, 16, .inl (aI (va_up tt nc b)))), (k4, .inl (cI, 16, .inl (aI (va_up sh nc c9))))] H := P_eq hP (congr (congrArg List.cons (congrArg (fun z9 => ((k0 : Nat), (Sum.inr (1, z9) : va_E))) (show ([.ref (k1), .ref (k2), .ref (k3), .ref (k4), .int (iI ((((nc : Nat) : Int)) + (1))), .long (bL (tb))] : List Value) = [.ref (k1), .ref (k2), .ref (k3), .ref (k4), .int (iI (((nc + 1 : Nat) : Int))), .long (bL (tb))] from congrArg (List.cons _) (congrArg (List.cons _) (congrArg (List.cons _) (congrArg (List.cons _) (congr (congrArg List.cons (congrArg Value.int q_1)) (congrArg (List.cons _) (rfl))))))))) (congrArg (List.cons _) (congrArg (List.cons _) (congrArg (List.cons _) (congrArg (List.cons _) (rfl))))))
  exact W.iret (v := iI (((nc : Nat) : Int))) hx hb hr (fun t ht hW => ⟨rfl, by rw [ht]; exact hP, hS.F ht⟩) hS.2.2 d_ke_addCoupler_42
