/-! reading methods of Stops, Memory, Copy, Store -/
set_option maxHeartbeats 200000 in
set_option maxRecDepth 100000 in
theorem c_st_all (l : Launch) (dC : Nat → ClassId) (dI : Nat → Nat → Nat) (cI cL cZ : ClassId) (s0 s1 s2 s3 s4 s5 s6 s7 : Nat) (fd fs fl fh ft fc : Nat → Int) (go : Nat → Nat → Bool) (n : Nat) (kn : Nat → Bool) (hn : n ≤ 48) : Met l y_st_all (Cond.code y_st_all prog_5_method_3_code 1 (some .long) :: TB) ({ frames := 0, cells := 0, slots := 0, locals := 0 }) (va_Pc [.ref (s0)] (PW dC dI [(s0, .inr (3, [.ref (s1), .ref (s2), .ref (s3), .ref (s4), .ref (s5), .ref (s6), .ref (s7), .int (iI (((n : Nat) : Int))), .long (bL (kn))])), (s1, .inl (cI, 48, .inl (aI (fd)))), (s2, .inl (cI, 48, .inl (aI (fs)))), (s3, .inl (cI, 48, .inl (aI (fl)))), (s4, .inl (cI, 48, .inl (aI (fh)))), (s5, .inl (cI, 48, .inl (aI (ft)))), (s6, .inl (cI, 48, .inl (aI (fc)))), (s7, .inl (cL, 5, .inr (.inl (aB (go)))))] [(cI, .int), (cL, .long), (cZ, .boolean)])) (k2_QcV (.long (bL (fun j => decide (j < (n)))))) 0 0 (fun _ => False) := by
  refine Met.ofW (cc := prog_5_method_3_code) (maxL := 1) (ret := (some .long)) (by decide) rfl ?_
  intro p e s m args below meth c s₁ B hml hv
  obtain ⟨ha, hP, hK⟩ := hv
  have hx := B.exec
  have hb := B.bytes
  have hr := B.returns
  have htb : ∀ w ∈ TB, w.before args s = true := fun w h => atoms_spec (ws := Cond.code y_st_all prog_5_method_3_code 1 (some .long) :: TB) B.pre w (List.mem_cons_of_mem _ h)
  have hown : s.vm.findClass "OrganConsole$Stops" = some m.cls := findClass_of_methodNamed B.named
  have hlocks := B.notSynchronized
  have hl := lv_entry ([.ref (s0)]) (n := 1) (Nat.le_of_ble_eq_true rfl)
  refine W.eq (g2 := F0 m 0 _ []) (by rw [ha]; exact lg_entry_eq m ([.ref (s0)]) 1) ?_
  generalize (lg_sl ([.ref (s0)]) ++ List.replicate (1 - (lg_sl ([.ref (s0)])).length) Slot.unset).toArray = ls at hl ⊢
  have hl : lv_has ls 1 [(0, .ref (s0))] := hl
  refine lv_lconst (v := bL (fun j => decide (j = 0))) hx hb d_st_all_0 bL_1 ?_
  refine lv_aload_n hx hb d_st_all_1 rfl (lv_at hl 0 rfl) ?_
  refine va_get (D := (dC, dI)) (ci := 3) (v := .int (iI (((n : Nat) : Int)))) (C := "OrganConsole$Stops") (T := T_st) (N := 9) hx hb htb in_st hown hK hP 0 rfl rfl 7 (by decide) (htb _ tw_109) (fun _ h9 => h9) rfl d_st_all_2 ?_
  refine xb_shl (f := fun j => decide (j = 0)) hx hb (n) (by omega) (by omega) d_st_all_5 ?_
  refine lv_lconst (v := bL (fun j => decide (j = 0))) hx hb d_st_all_6 bL_1 ?_
  refine xb_dec (n := (n)) hx hb (by omega) d_st_all_7 ?_
  exact W.lret (v := bL (fun j => decide (j < (n)))) hx hb hr (fun t ht hW => ⟨rfl, ht⟩) t_nil d_st_all_8

set_option maxHeartbeats 200000 in
set_option maxRecDepth 100000 in
theorem c_st_unlike (l : Launch) (dC : Nat → ClassId) (dI : Nat → Nat → Nat) (cI cL cZ : ClassId) (s0 s1 s2 s3 s4 s5 s6 s7 : Nat) (fd fs fl fh ft fc : Nat → Int) (go : Nat → Nat → Bool) (n : Nat) (kn : Nat → Bool) (hn : n ≤ 48) (f g : Nat → Bool) : Met l y_st_unlike (Cond.code y_st_unlike prog_5_method_4_code 5 (some .long) :: TB) ({ frames := 0, cells := 0, slots := 0, locals := 0 }) (va_Pc [.ref (s0), .long (bL (f)), .long (bL (g))] (PW dC dI [(s0, .inr (3, [.ref (s1), .ref (s2), .ref (s3), .ref (s4), .ref (s5), .ref (s6), .ref (s7), .int (iI (((n : Nat) : Int))), .long (bL (kn))])), (s1, .inl (cI, 48, .inl (aI (fd)))), (s2, .inl (cI, 48, .inl (aI (fs)))), (s3, .inl (cI, 48, .inl (aI (fl)))), (s4, .inl (cI, 48, .inl (aI (fh)))), (s5, .inl (cI, 48, .inl (aI (ft)))), (s6, .inl (cI, 48, .inl (aI (fc)))), (s7, .inl (cL, 5, .inr (.inl (aB (go)))))] [(cI, .int), (cL, .long), (cZ, .boolean)])) (k2_QcV (.long (bL (un (kn) (f) (g))))) 0 0 (fun _ => False) := by
  refine Met.ofW (cc := prog_5_method_4_code) (maxL := 5) (ret := (some .long)) (by decide) rfl ?_
  intro p e s m args below meth c s₁ B hml hv
  obtain ⟨ha, hP, hK⟩ := hv
  have hx := B.exec
  have hb := B.bytes
  have hr := B.returns
  have htb : ∀ w ∈ TB, w.before args s = true := fun w h => atoms_spec (ws := Cond.code y_st_unlike prog_5_method_4_code 5 (some .long) :: TB) B.pre w (List.mem_cons_of_mem _ h)
  have hown : s.vm.findClass "OrganConsole$Stops" = some m.cls := findClass_of_methodNamed B.named
  have hlocks := B.notSynchronized
  have hl := lv_entry ([.ref (s0), .long (bL (f)), .long (bL (g))]) (n := 5) (Nat.le_of_ble_eq_true rfl)
  refine W.eq (g2 := F0 m 0 _ []) (by rw [ha]; exact lg_entry_eq m ([.ref (s0), .long (bL (f)), .long (bL (g))]) 5) ?_
  generalize (lg_sl ([.ref (s0), .long (bL (f)), .long (bL (g))]) ++ List.replicate (5 - (lg_sl ([.ref (s0), .long (bL (f)), .long (bL (g))])).length) Slot.unset).toArray = ls at hl ⊢
  have hl : lv_has ls 5 [(0, .ref (s0)), (1, .long (bL (f))), (3, .long (bL (g)))] := hl
  refine lv_aload_n hx hb d_st_unlike_0 rfl (lv_at hl 0 rfl) ?_
  refine va_get (D := (dC, dI)) (ci := 3) (v := .long (bL (kn))) (C := "OrganConsole$Stops") (T := T_st) (N := 9) hx hb htb in_st hown hK hP 0 rfl rfl 8 (by decide) (htb _ tw_111) (fun _ h9 => h9) rfl d_st_unlike_1 ?_
  refine lv_lload_n hx hb d_st_unlike_4 rfl (lv_at hl 1 rfl) ?_
  refine xb_xor (f := kn) (g := f) hx hb d_st_unlike_5 ?_
  refine lv_lload_n hx hb d_st_unlike_6 rfl (lv_at hl 2 rfl) ?_
  refine xb_and (f := fun j => (kn) j ^^ (f) j) (g := g) hx hb d_st_unlike_7 ?_
  have q_1 : bL (fun j => (fun j => (kn) j ^^ (f) j) j && (g) j) = bL (un (kn) (f) (g)) := by
    exact bL_ext (fun j _ => rfl)
  rw [q_1]
  exact W.lret (v := bL (un (kn) (f) (g))) hx hb hr (fun t ht hW => ⟨rfl, ht⟩) t_nil d_st_unlike_8

set_option maxHeartbeats 200000 in
set_option maxRecDepth 100000 in
theorem c_st_pulls (l : Launch) (dC : Nat → ClassId) (dI : Nat → Nat → Nat) (cI cL cZ : ClassId) (s0 s1 s2 s3 s4 s5 s6 s7 : Nat) (fd fs fl fh ft fc : Nat → Int) (go : Nat → Nat → Bool) (n : Nat) (kn : Nat → Bool) (hn : n ≤ 48) (hft : ∀ s, 0 ≤ ft s ∧ ft s ≤ 3) : Met l y_st_pulls (Cond.code y_st_pulls prog_5_method_9_code 3 (some .int) :: TB) ({ frames := 0, cells := 0, slots := 0, locals := 0 }) (va_Pc [.ref (s0)] (PW dC dI [(s0, .inr (3, [.ref (s1), .ref (s2), .ref (s3), .ref (s4), .ref (s5), .ref (s6), .ref (s7), .int (iI (((n : Nat) : Int))), .long (bL (kn))])), (s1, .inl (cI, 48, .inl (aI (fd)))), (s2, .inl (cI, 48, .inl (aI (fs)))), (s3, .inl (cI, 48, .inl (aI (fl)))), (s4, .inl (cI, 48, .inl (aI (fh)))), (s5, .inl (cI, 48, .inl (aI (ft)))), (s6, .inl (cI, 48, .inl (aI (fc)))), (s7, .inl (cL, 5, .inr (.inl (aB (go)))))] [(cI, .int), (cL, .long), (cZ, .boolean)])) (k2_QcV (.int (iI (((cnt (fun s => decide (0 < ft s)) n : Nat) : Int))))) 0 0 (fun _ => False) := by
  refine Met.ofW (cc := prog_5_method_9_code) (maxL := 3) (ret := (some .int)) (by decide) rfl ?_
  intro p e s m args below meth c s₁ B hml hv
  obtain ⟨ha, hP, hK⟩ := hv
  have hx := B.exec
  have hb := B.bytes
  have hr := B.returns
  have htb : ∀ w ∈ TB, w.before args s = true := fun w h => atoms_spec (ws := Cond.code y_st_pulls prog_5_method_9_code 3 (some .int) :: TB) B.pre w (List.mem_cons_of_mem _ h)
  have hown : s.vm.findClass "OrganConsole$Stops" = some m.cls := findClass_of_methodNamed B.named
  have hlocks := B.notSynchronized
  have hl := lv_entry ([.ref (s0)]) (n := 3) (Nat.le_of_ble_eq_true rfl)
  refine W.eq (g2 := F0 m 0 _ []) (by rw [ha]; exact lg_entry_eq m ([.ref (s0)]) 3) ?_
  generalize (lg_sl ([.ref (s0)]) ++ List.replicate (3 - (lg_sl ([.ref (s0)])).length) Slot.unset).toArray = ls at hl ⊢
  have hl : lv_has ls 3 [(0, .ref (s0))] := hl
  refine lv_iconst (v := iI (0)) hx hb d_st_pulls_0 rfl ?_
  refine lv_istore_n hx hb d_st_pulls_1 rfl hl (by decide) rfl (fun ls hl => ?_)
  have hl : lv_has ls 3 [(1, .int (iI (0))), (0, .ref (s0))] := hl
  refine lv_iconst (v := iI (0)) hx hb d_st_pulls_2 rfl ?_
  refine lv_istore_n hx hb d_st_pulls_3 rfl hl (by decide) rfl (fun ls hl => ?_)
  have hl : lv_has ls 3 [(2, .int (iI (0))), (1, .int (iI (0))), (0, .ref (s0))] := hl
  have q_1 : iI (0) = iI (((cnt (fun s => decide (0 < ft s)) (0) : Nat) : Int)) := congrArg iI (by first | (rw [cnt_z]; rfl) | (rw [cnt_t (decide_eq_true (by omega))]; omega) | (rw [cnt_f (decide_eq_false (by omega))]))
  have q_2 : iI (0) = iI ((((0) : Nat) : Int)) := congrArg iI (by omega)
  have hl : lv_has ls 3 [(2, .int (iI ((((0) : Nat) : Int)))), (1, .int (iI (((cnt (fun s => decide (0 < ft s)) (0) : Nat) : Int)))), (0, .ref (s0))] := lv_eq9 hl (congr (congrArg List.cons (congrArg (fun z => ((2 : Nat), Value.int z)) q_2)) (congr (congrArg List.cons (congrArg (fun z => ((1 : Nat), Value.int z)) q_1)) (congr (congrArg List.cons (Eq.refl ((0 : Nat), Value.ref (s0)))) (rfl))))
  have L4 : ∀ (fu : Nat) (k : Nat), n - k < fu → k ≤ n → ∀ ls : Array Slot, lv_has ls 3 [(1, .int (iI (((cnt (fun s => decide (0 < ft s)) k : Nat) : Int)))), (2, .int (iI (((k : Nat) : Int)))), (0, .ref (s0))] → W p l e (headSpec (Cond.code y_st_pulls prog_5_method_9_code 3 (some .int) :: TB) ({ frames := 0, cells := 0, slots := 0, locals := 0 })).room s m args below meth c s.heap [] 0 0 (MQ below (k2_QcV (.int (iI (((cnt (fun s => decide (0 < ft s)) n : Nat) : Int))))) args s 0 0 (fun _ => False)) (F0 m 4 ls []) := by
    intro fu
    induction fu with
    | zero => intro k hfu; exact absurd hfu (Nat.not_lt_zero _)
    | succ fu ih4 =>
      intro k hfu hk ls hl
      refine lv_iload_n hx hb d_st_pulls_4 rfl (lv_at hl 1 rfl) ?_
      refine lv_aload_n hx hb d_st_pulls_5 rfl (lv_at hl 2 rfl) ?_
      refine va_get (D := (dC, dI)) (ci := 3) (v := .int (iI (((n : Nat) : Int)))) (C := "OrganConsole$Stops") (T := T_st) (N := 9) hx hb htb in_st hown hK hP 0 rfl rfl 7 (by decide) (htb _ tw_109) (fun _ h9 => h9) rfl d_st_pulls_6 ?_
      refine xi_icmp_ge (tgt := 30) hx hb ⟨by omega, by omega⟩ ⟨by omega, by omega⟩ d_st_pulls_9 (by decide) (fun u_3 => ?_) (fun u_3 => ?_)
      · skip
        refine lv_iload_n hx hb d_st_pulls_30 rfl (lv_at hl 0 rfl) ?_
        have q_4 : iI (((cnt (fun s => decide (0 < ft s)) k : Nat) : Int)) = iI (((cnt (fun s => decide (0 < ft s)) n : Nat) : Int)) := by
          have : k = n := by omega
          subst this
          rfl
        rw [q_4]
        exact W.iret (v := iI (((cnt (fun s => decide (0 < ft s)) n : Nat) : Int))) hx hb hr (fun t ht hW => ⟨rfl, ht⟩) t_nil d_st_pulls_31
      · skip
        have hf := hft k
        have hcl := cnt_le (fun s => decide (0 < ft s)) k
        refine lv_aload_n hx hb d_st_pulls_12 rfl (lv_at hl 2 rfl) ?_
        refine va_get (D := (dC, dI)) (ci := 3) (v := .ref (s5)) (C := "OrganConsole$Stops") (T := T_st) (N := 9) hx hb htb in_st hown hK hP 0 rfl rfl 4 (by decide) (htb _ tw_103) (fun _ h9 => h9) rfl d_st_pulls_13 ?_
        refine lv_iload_n hx hb d_st_pulls_16 rfl (lv_at hl 1 rfl) ?_
        refine xa_iald hx hb hK hP 5 0 rfl rfl (k) (by omega) (by omega) (by decide) d_st_pulls_17 ?_
        refine xi_if_le (tgt := 24) hx hb ⟨by omega, by omega⟩ d_st_pulls_18 (by decide) (fun u_5 => ?_) (fun u_5 => ?_)
        · skip
          refine lv_iinc (k := 1) (v := iI (((k : Nat) : Int) + 1)) hx hb d_st_pulls_24 hl rfl (iI_add _ _) (by decide) rfl (fun ls hl => ?_)
          have hl : lv_has ls 3 [(2, .int (iI (((k : Nat) : Int) + 1))), (1, .int (iI (((cnt (fun s => decide (0 < ft s)) k : Nat) : Int)))), (0, .ref (s0))] := hl
          refine lv_goto (tgt := 4) hx hb d_st_pulls_27 (by decide) ?_
          have q_6 : iI (((cnt (fun s => decide (0 < ft s)) k : Nat) : Int)) = iI (((cnt (fun s => decide (0 < ft s)) (k + 1) : Nat) : Int)) := congrArg iI (by first | (rw [cnt_z]; rfl) | (rw [cnt_t (decide_eq_true (by omega))]; omega) | (rw [cnt_f (decide_eq_false (by omega))]))
          have q_7 : iI (((k : Nat) : Int) + 1) = iI ((((k + 1) : Nat) : Int)) := congrArg iI (by omega)
          have hl : lv_has ls 3 [(2, .int (iI ((((k + 1) : Nat) : Int)))), (1, .int (iI (((cnt (fun s => decide (0 < ft s)) (k + 1) : Nat) : Int)))), (0, .ref (s0))] := lv_eq9 hl (congr (congrArg List.cons (congrArg (fun z => ((2 : Nat), Value.int z)) q_7)) (congr (congrArg List.cons (congrArg (fun z => ((1 : Nat), Value.int z)) q_6)) (congr (congrArg List.cons (Eq.refl ((0 : Nat), Value.ref (s0)))) (rfl))))
          exact ih4 (k + 1) (by omega) (by omega) _ (lv_sub hl [1, 0, 2] rfl)
        · skip
          refine lv_iinc (k := 0) (v := iI (((cnt (fun s => decide (0 < ft s)) k : Nat) : Int) + 1)) hx hb d_st_pulls_21 hl rfl (iI_add _ _) (by decide) rfl (fun ls hl => ?_)
          have hl : lv_has ls 3 [(1, .int (iI (((cnt (fun s => decide (0 < ft s)) k : Nat) : Int) + 1))), (2, .int (iI (((k : Nat) : Int)))), (0, .ref (s0))] := hl
          refine lv_iinc (k := 1) (v := iI (((k : Nat) : Int) + 1)) hx hb d_st_pulls_24 hl rfl (iI_add _ _) (by decide) rfl (fun ls hl => ?_)
          have hl : lv_has ls 3 [(2, .int (iI (((k : Nat) : Int) + 1))), (1, .int (iI (((cnt (fun s => decide (0 < ft s)) k : Nat) : Int) + 1))), (0, .ref (s0))] := hl
          refine lv_goto (tgt := 4) hx hb d_st_pulls_27 (by decide) ?_
          have q_8 : iI (((cnt (fun s => decide (0 < ft s)) k : Nat) : Int) + 1) = iI (((cnt (fun s => decide (0 < ft s)) (k + 1) : Nat) : Int)) := congrArg iI (by first | (rw [cnt_z]; rfl) | (rw [cnt_t (decide_eq_true (by omega))]; omega) | (rw [cnt_f (decide_eq_false (by omega))]))
          have q_9 : iI (((k : Nat) : Int) + 1) = iI ((((k + 1) : Nat) : Int)) := congrArg iI (by omega)
          have hl : lv_has ls 3 [(2, .int (iI ((((k + 1) : Nat) : Int)))), (1, .int (iI (((cnt (fun s => decide (0 < ft s)) (k + 1) : Nat) : Int)))), (0, .ref (s0))] := lv_eq9 hl (congr (congrArg List.cons (congrArg (fun z => ((2 : Nat), Value.int z)) q_9)) (congr (congrArg List.cons (congrArg (fun z => ((1 : Nat), Value.int z)) q_8)) (congr (congrArg List.cons (Eq.refl ((0 : Nat), Value.ref (s0)))) (rfl))))
          exact ih4 (k + 1) (by omega) (by omega) _ (lv_sub hl [1, 0, 2] rfl)
  exact L4 ((n - (0)) + 1) (0) (Nat.lt_succ_self _) (Nat.zero_le _) _ (lv_sub hl [1, 0, 2] rfl)

set_option maxHeartbeats 200000 in
set_option maxRecDepth 100000 in
theorem c_me_stepsUpTo (l : Launch) (dC : Nat → ClassId) (dI : Nat → Nat → Nat) (cI cL cZ : ClassId) (m0 m1 : Nat) (row : Nat → Nat → Bool) (fm : Int) (n : Nat) (z : Int) (hz : z = (n : Int)) (hn : n ≤ 15) : Met l y_me_stepsUpTo (Cond.code y_me_stepsUpTo prog_4_method_6_code 5 (some .long) :: TB) ({ frames := 1, cells := 0, slots := 0, locals := 20 }) (va_Pc [.ref (m0), .int (iI (z))] (PW dC dI [(m0, .inr (2, [.ref (m1), .int (iI (fm))])), (m1, .inl (cL, 443, .inr (.inl (aB (row)))))] [(cI, .int), (cL, .long), (cZ, .boolean)])) (k2_QcV (.long (bL (su row n)))) 0 0 (fun _ => False) := by
  refine Met.ofW (cc := prog_4_method_6_code) (maxL := 5) (ret := (some .long)) (by decide) rfl ?_
  intro p e s m args below meth c s₁ B hml hv
  obtain ⟨ha, hP, hK⟩ := hv
  have hx := B.exec
  have hb := B.bytes
  have hr := B.returns
  have htb : ∀ w ∈ TB, w.before args s = true := fun w h => atoms_spec (ws := Cond.code y_me_stepsUpTo prog_4_method_6_code 5 (some .long) :: TB) B.pre w (List.mem_cons_of_mem _ h)
  have hown : s.vm.findClass "OrganConsole$Memory" = some m.cls := findClass_of_methodNamed B.named
  have hlocks := B.notSynchronized
  have hl := lv_entry ([.ref (m0), .int (iI (z))]) (n := 5) (Nat.le_of_ble_eq_true rfl)
  refine W.eq (g2 := F0 m 0 _ []) (by rw [ha]; exact lg_entry_eq m ([.ref (m0), .int (iI (z))]) 5) ?_
  generalize (lg_sl ([.ref (m0), .int (iI (z))]) ++ List.replicate (5 - (lg_sl ([.ref (m0), .int (iI (z))])).length) Slot.unset).toArray = ls at hl ⊢
  have hl : lv_has ls 5 [(0, .ref (m0)), (1, .int (iI (z)))] := hl
  refine lv_lconst (v := bL (fun _ => false)) hx hb d_me_stepsUpTo_0 bL_0 ?_
  refine lv_lstore_n hx hb d_me_stepsUpTo_1 rfl hl (by decide) rfl (fun ls hl => ?_)
  have hl : lv_has ls 5 [(2, .long (bL (fun _ => false))), (0, .ref (m0)), (1, .int (iI (z)))] := hl
  refine lv_iconst (v := iI (1)) hx hb d_me_stepsUpTo_2 rfl ?_
  refine lv_istore hx hb d_me_stepsUpTo_3 hl (by decide) rfl (fun ls hl => ?_)
  have hl : lv_has ls 5 [(4, .int (iI (1))), (2, .long (bL (fun _ => false))), (0, .ref (m0)), (1, .int (iI (z)))] := hl
  have q_1 : bL (fun _ => false) = bL (su row (0)) := by exact bL_ext (fun j _ => rfl)
  have q_2 : iI (1) = iI ((((0) + 1 : Nat) : Int)) := congrArg iI (by omega)
  have hl : lv_has ls 5 [(4, .int (iI ((((0) + 1 : Nat) : Int)))), (2, .long (bL (su row (0)))), (0, .ref (m0)), (1, .int (iI (z)))] := lv_eq9 hl (congr (congrArg List.cons (congrArg (fun z => ((4 : Nat), Value.int z)) q_2)) (congr (congrArg List.cons (congrArg (fun z => ((2 : Nat), Value.long z)) q_1)) (congr (congrArg List.cons (Eq.refl ((0 : Nat), Value.ref (m0)))) (congr (congrArg List.cons (Eq.refl ((1 : Nat), Value.int (iI (z))))) (rfl)))))
  have L5 : ∀ (fu : Nat) (k : Nat), n - k < fu → k ≤ n → ∀ ls : Array Slot, lv_has ls 5 [(2, .long (bL (su row k))), (4, .int (iI (((k + 1 : Nat) : Int)))), (0, .ref (m0)), (1, .int (iI (z)))] → W p l e (headSpec (Cond.code y_me_stepsUpTo prog_4_method_6_code 5 (some .long) :: TB) ({ frames := 1, cells := 0, slots := 0, locals := 20 })).room s m args below meth c s.heap [] 0 0 (MQ below (k2_QcV (.long (bL (su row n)))) args s 0 0 (fun _ => False)) (F0 m 5 ls []) := by
    intro fu
    induction fu with
    | zero => intro k hfu; exact absurd hfu (Nat.not_lt_zero _)
    | succ fu ih5 =>
      intro k hfu hk ls hl
      refine lv_iload hx hb d_me_stepsUpTo_5 (lv_at hl 1 rfl) ?_
      refine lv_iload_n hx hb d_me_stepsUpTo_7 rfl (lv_at hl 3 rfl) ?_
      refine xi_icmp_gt (tgt := 30) hx hb ⟨by omega, by omega⟩ ⟨by omega, by omega⟩ d_me_stepsUpTo_8 (by decide) (fun u_3 => ?_) (fun u_3 => ?_)
      · skip
        refine lv_lload_n hx hb d_me_stepsUpTo_30 rfl (lv_at hl 0 rfl) ?_
        have q_4 : bL (su row k) = bL (su row n) := by
          have : k = n := by omega
          subst this
          rfl
        rw [q_4]
        exact W.lret (v := bL (su row n)) hx hb hr (fun t ht hW => ⟨rfl, ht⟩) t_nil d_me_stepsUpTo_31
      · skip
        refine lv_lload_n hx hb d_me_stepsUpTo_11 rfl (lv_at hl 0 rfl) ?_
        refine lv_aload_n hx hb d_me_stepsUpTo_12 rfl (lv_at hl 2 rfl) ?_
        refine va_get (D := (dC, dI)) (ci := 2) (v := .ref (m1)) (C := "OrganConsole$Memory") (T := T_me) (N := 2) hx hb htb in_me hown hK hP 0 rfl rfl 0 (by decide) (htb _ tw_138) (fun _ h9 => h9) rfl d_me_stepsUpTo_13 ?_
        refine lv_iload hx hb d_me_stepsUpTo_16 (lv_at hl 1 rfl) ?_
        refine pcS hx hb hml hown htb (c_me_stepRow l (((k + 1 : Nat) : Int))) tw_615 tw_582 tw_37 tw_583 1 (by decide +kernel) rfl rfl ⟨Nat.le_of_ble_eq_true rfl, Nat.le_of_ble_eq_true rfl⟩ ⟨Nat.zero_le _, Nat.zero_le _⟩ [.int (iI (((k + 1 : Nat) : Int)))] ⟨fun _ _ _ _ q => q, fun U _ _ => ⟨rfl, trivial⟩⟩ rfl hl.1 rfl (Nat.le_of_ble_eq_true rfl) d_me_stepsUpTo_18 ?_
        refine xa_bald hx hb hK hP 1 1 rfl rfl (428 + k) (by omega) (by omega) (by decide) d_me_stepsUpTo_21 ?_
        refine xb_or (f := su row k) (g := (row) (428 + k)) hx hb d_me_stepsUpTo_22 ?_
        refine lv_lstore_n hx hb d_me_stepsUpTo_23 rfl hl (by decide) rfl (fun ls hl => ?_)
        have hl : lv_has ls 5 [(2, .long (bL (fun j => (su row k) j || ((row) (428 + k)) j))), (4, .int (iI (((k + 1 : Nat) : Int)))), (0, .ref (m0)), (1, .int (iI (z)))] := hl
        refine lv_iinc (k := 1) (v := iI (((k + 1 : Nat) : Int) + 1)) hx hb d_me_stepsUpTo_24 hl rfl (iI_add _ _) (by decide) rfl (fun ls hl => ?_)
        have hl : lv_has ls 5 [(4, .int (iI (((k + 1 : Nat) : Int) + 1))), (2, .long (bL (fun j => (su row k) j || ((row) (428 + k)) j))), (0, .ref (m0)), (1, .int (iI (z)))] := hl
        refine lv_goto (tgt := 5) hx hb d_me_stepsUpTo_27 (by decide) ?_
        have q_5 : bL (fun j => (su row k) j || ((row) (428 + k)) j) = bL (su row (k + 1)) := by exact bL_ext (fun j _ => rfl)
        have q_6 : iI (((k + 1 : Nat) : Int) + 1) = iI ((((k + 1) + 1 : Nat) : Int)) := congrArg iI (by omega)
        have hl : lv_has ls 5 [(4, .int (iI ((((k + 1) + 1 : Nat) : Int)))), (2, .long (bL (su row (k + 1)))), (0, .ref (m0)), (1, .int (iI (z)))] := lv_eq9 hl (congr (congrArg List.cons (congrArg (fun z => ((4 : Nat), Value.int z)) q_6)) (congr (congrArg List.cons (congrArg (fun z => ((2 : Nat), Value.long z)) q_5)) (congr (congrArg List.cons (Eq.refl ((0 : Nat), Value.ref (m0)))) (congr (congrArg List.cons (Eq.refl ((1 : Nat), Value.int (iI (z))))) (rfl)))))
        exact ih5 (k + 1) (by omega) (by omega) _ (lv_sub hl [1, 0, 2, 3] rfl)
  exact L5 ((n - (0)) + 1) (0) (Nat.lt_succ_self _) (Nat.zero_le _) _ (lv_sub hl [1, 0, 2, 3] rfl)

set_option maxHeartbeats 200000 in
set_option maxRecDepth 100000 in
theorem c_cp_greatestVersion (l : Launch) (dC : Nat → ClassId) (dI : Nat → Nat → Nat) (cI cL cZ : ClassId) (c0 c1 c2 c3 : Nat) (fv : Nat → Int) (fz : Nat → Bool) (hv : ∀ p, 0 ≤ fv p ∧ fv p ≤ 100000) : Met l y_cp_greatestVersion (Cond.code y_cp_greatestVersion prog_2_method_2_code 3 (some .int) :: TB) ({ frames := 1, cells := 0, slots := 0, locals := 21 }) (va_Pc [.ref (c0)] (PW dC dI [(c0, .inr (0, [.ref (c1), .ref (c2), .ref (c3)])), (c1, .inl (cI, 9, .inl (aI (fv)))), (c2, .inl (cZ, 9, .inl (aZ (fz))))] [(cI, .int), (cL, .long), (cZ, .boolean)])) (k2_QcV (.int (iI (gv fv 9)))) 0 0 (fun _ => False) := by
  refine Met.ofW (cc := prog_2_method_2_code) (maxL := 3) (ret := (some .int)) (by decide) rfl ?_
  intro p e s m args below meth c s₁ B hml hv
  obtain ⟨ha, hP, hK⟩ := hv
  have hx := B.exec
  have hb := B.bytes
  have hr := B.returns
  have htb : ∀ w ∈ TB, w.before args s = true := fun w h => atoms_spec (ws := Cond.code y_cp_greatestVersion prog_2_method_2_code 3 (some .int) :: TB) B.pre w (List.mem_cons_of_mem _ h)
  have hown : s.vm.findClass "OrganConsole$Copy" = some m.cls := findClass_of_methodNamed B.named
  have hlocks := B.notSynchronized
  have hl := lv_entry ([.ref (c0)]) (n := 3) (Nat.le_of_ble_eq_true rfl)
  refine W.eq (g2 := F0 m 0 _ []) (by rw [ha]; exact lg_entry_eq m ([.ref (c0)]) 3) ?_
  generalize (lg_sl ([.ref (c0)]) ++ List.replicate (3 - (lg_sl ([.ref (c0)])).length) Slot.unset).toArray = ls at hl ⊢
  have hl : lv_has ls 3 [(0, .ref (c0))] := hl
  refine lv_iconst (v := iI (0)) hx hb d_cp_greatestVersion_0 rfl ?_
  refine lv_istore_n hx hb d_cp_greatestVersion_1 rfl hl (by decide) rfl (fun ls hl => ?_)
  have hl : lv_has ls 3 [(1, .int (iI (0))), (0, .ref (c0))] := hl
  refine lv_iconst (v := iI (0)) hx hb d_cp_greatestVersion_2 rfl ?_
  refine lv_istore_n hx hb d_cp_greatestVersion_3 rfl hl (by decide) rfl (fun ls hl => ?_)
  have hl : lv_has ls 3 [(2, .int (iI (0))), (1, .int (iI (0))), (0, .ref (c0))] := hl
  have q_1 : iI (0) = iI (gv fv (0)) := congrArg iI rfl
  have q_2 : iI (0) = iI ((((0) : Nat) : Int)) := congrArg iI (by omega)
  have hl : lv_has ls 3 [(2, .int (iI ((((0) : Nat) : Int)))), (1, .int (iI (gv fv (0)))), (0, .ref (c0))] := lv_eq9 hl (congr (congrArg List.cons (congrArg (fun z => ((2 : Nat), Value.int z)) q_2)) (congr (congrArg List.cons (congrArg (fun z => ((1 : Nat), Value.int z)) q_1)) (congr (congrArg List.cons (Eq.refl ((0 : Nat), Value.ref (c0)))) (rfl))))
  have L4 : ∀ (fu : Nat) (k : Nat), 9 - k < fu → k ≤ 9 → ∀ ls : Array Slot, lv_has ls 3 [(1, .int (iI (gv fv k))), (2, .int (iI (((k : Nat) : Int)))), (0, .ref (c0))] → W p l e (headSpec (Cond.code y_cp_greatestVersion prog_2_method_2_code 3 (some .int) :: TB) ({ frames := 1, cells := 0, slots := 0, locals := 21 })).room s m args below meth c s.heap [] 0 0 (MQ below (k2_QcV (.int (iI (gv fv 9)))) args s 0 0 (fun _ => False)) (F0 m 4 ls []) := by
    intro fu
    induction fu with
    | zero => intro k hfu; exact absurd hfu (Nat.not_lt_zero _)
    | succ fu ih4 =>
      intro k hfu hk ls hl
      refine lv_iload_n hx hb d_cp_greatestVersion_4 rfl (lv_at hl 1 rfl) ?_
      refine lv_bipush (v := iI (9)) hx hb d_cp_greatestVersion_5 (by decide +kernel) ?_
      refine xi_icmp_ge (tgt := 27) hx hb ⟨by omega, by omega⟩ ⟨by omega, by omega⟩ d_cp_greatestVersion_7 (by decide) (fun u_3 => ?_) (fun u_3 => ?_)
      · skip
        refine lv_iload_n hx hb d_cp_greatestVersion_27 rfl (lv_at hl 0 rfl) ?_
        have q_4 : iI (gv fv k) = iI (gv fv 9) := by
          have : k = 9 := by omega
          subst this
          rfl
        rw [q_4]
        exact W.iret (v := iI (gv fv 9)) hx hb hr (fun t ht hW => ⟨rfl, ht⟩) t_nil d_cp_greatestVersion_28
      · skip
        have hg := gv_in hv k
        have hf := hv k
        refine lv_iload_n hx hb d_cp_greatestVersion_10 rfl (lv_at hl 0 rfl) ?_
        refine lv_aload_n hx hb d_cp_greatestVersion_11 rfl (lv_at hl 2 rfl) ?_
        refine va_get (D := (dC, dI)) (ci := 0) (v := .ref (c1)) (C := "OrganConsole$Copy") (T := T_cp) (N := 3) hx hb htb in_cp hown hK hP 0 rfl rfl 0 (by decide) (htb _ tw_161) (fun _ h9 => h9) rfl d_cp_greatestVersion_12 ?_
        refine lv_iload_n hx hb d_cp_greatestVersion_15 rfl (lv_at hl 1 rfl) ?_
        refine xa_iald hx hb hK hP 1 0 rfl rfl (k) (by omega) (by omega) (by decide) d_cp_greatestVersion_16 ?_
        refine pcS hx hb hml hown htb (c_jm_max l (gv fv k) ((fv) (k)) ⟨by omega, by omega⟩ ⟨by omega, by omega⟩) tw_675 tw_636 tw_49 tw_637 2 (by decide +kernel) rfl rfl ⟨Nat.le_of_ble_eq_true rfl, Nat.le_of_ble_eq_true rfl⟩ ⟨Nat.zero_le _, Nat.zero_le _⟩ [.int (iI (gv fv k)), .int (iI ((fv) (k)))] ⟨fun _ _ _ _ q => q, fun U _ _ => ⟨rfl, trivial⟩⟩ rfl hl.1 rfl (Nat.le_of_ble_eq_true rfl) d_cp_greatestVersion_17 ?_
        refine lv_istore_n hx hb d_cp_greatestVersion_20 rfl hl (by decide) rfl (fun ls hl => ?_)
        have hl : lv_has ls 3 [(1, .int (iI (max (gv fv k) ((fv) (k))))), (2, .int (iI (((k : Nat) : Int)))), (0, .ref (c0))] := hl
        refine lv_iinc (k := 1) (v := iI (((k : Nat) : Int) + 1)) hx hb d_cp_greatestVersion_21 hl rfl (iI_add _ _) (by decide) rfl (fun ls hl => ?_)
        have hl : lv_has ls 3 [(2, .int (iI (((k : Nat) : Int) + 1))), (1, .int (iI (max (gv fv k) ((fv) (k))))), (0, .ref (c0))] := hl
        refine lv_goto (tgt := 4) hx hb d_cp_greatestVersion_24 (by decide) ?_
        have q_5 : iI (max (gv fv k) ((fv) (k))) = iI (gv fv (k + 1)) := congrArg iI rfl
        have q_6 : iI (((k : Nat) : Int) + 1) = iI ((((k + 1) : Nat) : Int)) := congrArg iI (by omega)
        have hl : lv_has ls 3 [(2, .int (iI ((((k + 1) : Nat) : Int)))), (1, .int (iI (gv fv (k + 1)))), (0, .ref (c0))] := lv_eq9 hl (congr (congrArg List.cons (congrArg (fun z => ((2 : Nat), Value.int z)) q_6)) (congr (congrArg List.cons (congrArg (fun z => ((1 : Nat), Value.int z)) q_5)) (congr (congrArg List.cons (Eq.refl ((0 : Nat), Value.ref (c0)))) (rfl))))
        exact ih4 (k + 1) (by omega) (by omega) _ (lv_sub hl [1, 0, 2] rfl)
  exact L4 ((9 - (0)) + 1) (0) (Nat.lt_succ_self _) (by omega) _ (lv_sub hl [1, 0, 2] rfl)

set_option maxHeartbeats 200000 in
set_option maxRecDepth 100000 in
theorem c_cp_wholeVersion (l : Launch) (dC : Nat → ClassId) (dI : Nat → Nat → Nat) (cI cL cZ : ClassId) (c0 c1 c2 c3 : Nat) (fv : Nat → Int) (fz : Nat → Bool) (hv : ∀ p, 0 ≤ fv p ∧ fv p ≤ 100000) : Met l y_cp_wholeVersion (Cond.code y_cp_wholeVersion prog_2_method_3_code 2 (some .int) :: TB) ({ frames := 0, cells := 0, slots := 0, locals := 0 }) (va_Pc [.ref (c0)] (PW dC dI [(c0, .inr (0, [.ref (c1), .ref (c2), .ref (c3)])), (c1, .inl (cI, 9, .inl (aI (fv)))), (c2, .inl (cZ, 9, .inl (aZ (fz))))] [(cI, .int), (cL, .long), (cZ, .boolean)])) (k2_QcV (.int (iI (wv fv fz)))) 0 0 (fun _ => False) := by
  refine Met.ofW (cc := prog_2_method_3_code) (maxL := 2) (ret := (some .int)) (by decide) rfl ?_
  intro p e s m args below meth c s₁ B hml hv
  obtain ⟨ha, hP, hK⟩ := hv
  have hx := B.exec
  have hb := B.bytes
  have hr := B.returns
  have htb : ∀ w ∈ TB, w.before args s = true := fun w h => atoms_spec (ws := Cond.code y_cp_wholeVersion prog_2_method_3_code 2 (some .int) :: TB) B.pre w (List.mem_cons_of_mem _ h)
  have hown : s.vm.findClass "OrganConsole$Copy" = some m.cls := findClass_of_methodNamed B.named
  have hlocks := B.notSynchronized
  have hl := lv_entry ([.ref (c0)]) (n := 2) (Nat.le_of_ble_eq_true rfl)
  refine W.eq (g2 := F0 m 0 _ []) (by rw [ha]; exact lg_entry_eq m ([.ref (c0)]) 2) ?_
  generalize (lg_sl ([.ref (c0)]) ++ List.replicate (2 - (lg_sl ([.ref (c0)])).length) Slot.unset).toArray = ls at hl ⊢
  have hl : lv_has ls 2 [(0, .ref (c0))] := hl
  refine lv_iconst (v := iI (0)) hx hb d_cp_wholeVersion_0 rfl ?_
  refine lv_istore_n hx hb d_cp_wholeVersion_1 rfl hl (by decide) rfl (fun ls hl => ?_)
  have hl : lv_has ls 2 [(1, .int (iI (0))), (0, .ref (c0))] := hl
  have q_1 : iI (0) = iI ((((0) : Nat) : Int)) := congrArg iI (by omega)
  have hl : lv_has ls 2 [(1, .int (iI ((((0) : Nat) : Int)))), (0, .ref (c0))] := lv_eq9 hl (congr (congrArg List.cons (congrArg (fun z => ((1 : Nat), Value.int z)) q_1)) (congr (congrArg List.cons (Eq.refl ((0 : Nat), Value.ref (c0)))) (rfl)))
  have L2 : ∀ (fu : Nat) (k : Nat), 9 - k < fu → k ≤ 9 → (∀ p, p < k → fz p = false ∧ fv p = fv 8) → ∀ ls : Array Slot, lv_has ls 2 [(1, .int (iI (((k : Nat) : Int)))), (0, .ref (c0))] → W p l e (headSpec (Cond.code y_cp_wholeVersion prog_2_method_3_code 2 (some .int) :: TB) ({ frames := 0, cells := 0, slots := 0, locals := 0 })).room s m args below meth c s.heap [] 0 0 (MQ below (k2_QcV (.int (iI (wv fv fz)))) args s 0 0 (fun _ => False)) (F0 m 2 ls []) := by
    intro fu
    induction fu with
    | zero => intro k hfu; exact absurd hfu (Nat.not_lt_zero _)
    | succ fu ih2 =>
      intro k hfu hk hall ls hl
      refine lv_iload_n hx hb d_cp_wholeVersion_2 rfl (lv_at hl 0 rfl) ?_
      refine lv_bipush (v := iI (9)) hx hb d_cp_wholeVersion_3 (by decide +kernel) ?_
      refine xi_icmp_ge (tgt := 41) hx hb ⟨by omega, by omega⟩ ⟨by omega, by omega⟩ d_cp_wholeVersion_5 (by decide) (fun u_2 => ?_) (fun u_2 => ?_)
      · skip
        refine lv_aload_n hx hb d_cp_wholeVersion_41 rfl (lv_at hl 1 rfl) ?_
        refine va_get (D := (dC, dI)) (ci := 0) (v := .ref (c1)) (C := "OrganConsole$Copy") (T := T_cp) (N := 3) hx hb htb in_cp hown hK hP 0 rfl rfl 0 (by decide) (htb _ tw_161) (fun _ h9 => h9) rfl d_cp_wholeVersion_42 ?_
        refine lv_bipush (v := iI (8)) hx hb d_cp_wholeVersion_45 (by decide +kernel) ?_
        refine xa_iald hx hb hK hP 1 0 rfl rfl 8 (by rfl) (by omega) (by decide) d_cp_wholeVersion_47 ?_
        have q_3 : iI ((fv) 8) = iI (wv fv fz) := by
          have : k = 9 := by omega
          subst this
          rw [wv_t hall]
        rw [q_3]
        exact W.iret (v := iI (wv fv fz)) hx hb hr (fun t ht hW => ⟨rfl, ht⟩) t_nil d_cp_wholeVersion_48
      · skip
        have hf := hv k
        have h8 := hv 8
        refine lv_aload_n hx hb d_cp_wholeVersion_8 rfl (lv_at hl 1 rfl) ?_
        refine va_get (D := (dC, dI)) (ci := 0) (v := .ref (c2)) (C := "OrganConsole$Copy") (T := T_cp) (N := 3) hx hb htb in_cp hown hK hP 0 rfl rfl 1 (by decide) (htb _ tw_164) (fun _ h9 => h9) rfl d_cp_wholeVersion_9 ?_
        refine lv_iload_n hx hb d_cp_wholeVersion_12 rfl (lv_at hl 0 rfl) ?_
        refine xa_zald hx hb hK hP 2 2 rfl rfl (k) (by omega) (by omega) (by decide) d_cp_wholeVersion_13 ?_
        refine xz_if_ne (tgt := 33) hx hb d_cp_wholeVersion_14 (by decide) (fun u_4 => ?_) (fun u_4 => ?_)
        · skip
          refine lv_iconst (v := iI (0)) hx hb d_cp_wholeVersion_33 rfl ?_
          have q_5 : iI (0) = iI (wv fv fz) := by
            rw [wv_f (fun h => by have := h k (by omega); simp_all)]
          rw [q_5]
          exact W.iret (v := iI (wv fv fz)) hx hb hr (fun t ht hW => ⟨rfl, ht⟩) t_nil d_cp_wholeVersion_34
        · skip
          refine lv_aload_n hx hb d_cp_wholeVersion_17 rfl (lv_at hl 1 rfl) ?_
          refine va_get (D := (dC, dI)) (ci := 0) (v := .ref (c1)) (C := "OrganConsole$Copy") (T := T_cp) (N := 3) hx hb htb in_cp hown hK hP 0 rfl rfl 0 (by decide) (htb _ tw_161) (fun _ h9 => h9) rfl d_cp_wholeVersion_18 ?_
          refine lv_iload_n hx hb d_cp_wholeVersion_21 rfl (lv_at hl 0 rfl) ?_
          refine xa_iald hx hb hK hP 1 0 rfl rfl (k) (by omega) (by omega) (by decide) d_cp_wholeVersion_22 ?_
          refine lv_aload_n hx hb d_cp_wholeVersion_23 rfl (lv_at hl 1 rfl) ?_
          refine va_get (D := (dC, dI)) (ci := 0) (v := .ref (c1)) (C := "OrganConsole$Copy") (T := T_cp) (N := 3) hx hb htb in_cp hown hK hP 0 rfl rfl 0 (by decide) (htb _ tw_161) (fun _ h9 => h9) rfl d_cp_wholeVersion_24 ?_
          refine lv_bipush (v := iI (8)) hx hb d_cp_wholeVersion_27 (by decide +kernel) ?_
          refine xa_iald hx hb hK hP 1 0 rfl rfl 8 (by rfl) (by omega) (by decide) d_cp_wholeVersion_29 ?_
          refine xi_icmp_eq (tgt := 35) hx hb ⟨by omega, by omega⟩ ⟨by omega, by omega⟩ d_cp_wholeVersion_30 (by decide) (fun u_6 => ?_) (fun u_6 => ?_)
          · skip
            refine lv_iinc (k := 0) (v := iI (((k : Nat) : Int) + 1)) hx hb d_cp_wholeVersion_35 hl rfl (iI_add _ _) (by decide) rfl (fun ls hl => ?_)
            have hl : lv_has ls 2 [(1, .int (iI (((k : Nat) : Int) + 1))), (0, .ref (c0))] := hl
            refine lv_goto (tgt := 2) hx hb d_cp_wholeVersion_38 (by decide) ?_
            have q_7 : iI (((k : Nat) : Int) + 1) = iI ((((k + 1) : Nat) : Int)) := congrArg iI (by omega)
            have hl : lv_has ls 2 [(1, .int (iI ((((k + 1) : Nat) : Int)))), (0, .ref (c0))] := lv_eq9 hl (congr (congrArg List.cons (congrArg (fun z => ((1 : Nat), Value.int z)) q_7)) (congr (congrArg List.cons (Eq.refl ((0 : Nat), Value.ref (c0)))) (rfl)))
            exact ih2 (k + 1) (by omega) (by omega) (fun p hp => by by_cases h : p = k; (subst h; exact ⟨by assumption, by assumption⟩); exact hall p (by omega)) _ (lv_sub hl [0, 1] rfl)
          · skip
            refine lv_iconst (v := iI (0)) hx hb d_cp_wholeVersion_33 rfl ?_
            have q_8 : iI (0) = iI (wv fv fz) := by
              rw [wv_f (fun h => by have := h k (by omega); simp_all)]
            rw [q_8]
            exact W.iret (v := iI (wv fv fz)) hx hb hr (fun t ht hW => ⟨rfl, ht⟩) t_nil d_cp_wholeVersion_34
  exact L2 ((9 - (0)) + 1) (0) (Nat.lt_succ_self _) (by omega) (fun p hp => absurd hp (Nat.not_lt_zero p)) _ (lv_sub hl [0, 1] rfl)
