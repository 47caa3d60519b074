/-! reading methods of Keywork -/
set_option maxHeartbeats 200000 in
set_option maxRecDepth 100000 in
theorem c_ke_reached (l : Launch) (dC : Nat → ClassId) (dI : Nat → Nat → Nat) (cI cL cZ : ClassId) (k0 k1 k2 k3 k4 : Nat) (g : Nat → Nat → Bool) (fr tt sh : Nat → Int) (nc : Nat) (tb : Nat → Bool) (hok : kwOk g fr tt sh nc) (d w : Int) (hd : 0 ≤ d) (hd5 : d < 5) (hw : w = 0 ∨ w = 1) : Met l y_ke_reached (Cond.code y_ke_reached prog_3_method_6_code 6 (some .long) :: TB) ({ frames := 1, cells := 0, slots := 0, locals := 24 }) (va_Pc [.ref (k0), .int (iI (d)), .int (iI (w))] (PN dC dI [(k0, .inr (1, [.ref (k1), .ref (k2), .ref (k3), .ref (k4), .int (iI (((nc : Nat) : Int))), .long (bL (tb))])), (k1, .inl (cL, 5, .inr (.inl (aB (g))))), (k2, .inl (cI, 16, .inl (aI (fr)))), (k3, .inl (cI, 16, .inl (aI (tt)))), (k4, .inl (cI, 16, .inl (aI (sh))))] [(cI, .int), (cL, .long), (cZ, .boolean)])) (k2_QcV (.long (bL (rc g fr tt sh tb (d) (w) nc)))) 0 0 (fun _ => False) := by
  refine Met.ofW (cc := prog_3_method_6_code) (maxL := 6) (ret := (some .long)) (by decide) rfl ?_
  intro p e s m args below meth c s₁ B hml hv
  obtain ⟨ha, hP, hK, hN⟩ := hv
  have hx := B.exec
  have hb := B.bytes
  have hr := B.returns
  have htb : ∀ w ∈ TB, w.before args s = true := fun w h => atoms_spec (ws := Cond.code y_ke_reached prog_3_method_6_code 6 (some .long) :: TB) B.pre w (List.mem_cons_of_mem _ h)
  have hown : s.vm.findClass "OrganConsole$Keywork" = some m.cls := findClass_of_methodNamed B.named
  have hlocks := B.notSynchronized
  have hl := lv_entry ([.ref (k0), .int (iI (d)), .int (iI (w))]) (n := 6) (Nat.le_of_ble_eq_true rfl)
  refine W.eq (g2 := F0 m 0 _ []) (by rw [ha]; exact lg_entry_eq m ([.ref (k0), .int (iI (d)), .int (iI (w))]) 6) ?_
  generalize (lg_sl ([.ref (k0), .int (iI (d)), .int (iI (w))]) ++ List.replicate (6 - (lg_sl ([.ref (k0), .int (iI (d)), .int (iI (w))])).length) Slot.unset).toArray = ls at hl ⊢
  have hl : lv_has ls 6 [(0, .ref (k0)), (1, .int (iI (d))), (2, .int (iI (w)))] := hl
  have hnc := hok.1
  refine lv_aload_n hx hb d_ke_reached_0 rfl (lv_at hl 0 rfl) ?_
  refine va_get (D := (dC, dI)) (ci := 1) (v := .ref (k1)) (C := "OrganConsole$Keywork") (T := T_ke) (N := 6) hx hb htb in_ke hown hK hP 0 rfl rfl 0 (by decide) (htb _ tw_65) (fun _ h9 => h9) rfl d_ke_reached_1 ?_
  refine lv_iload_n hx hb d_ke_reached_4 rfl (lv_at hl 1 rfl) ?_
  refine xa_bald hx hb hK hP 1 1 rfl rfl (d).toNat (by omega) (by omega) (by decide) d_ke_reached_5 ?_
  refine lv_iconst (v := iI (0)) hx hb d_ke_reached_6 rfl ?_
  refine lv_iload_n hx hb d_ke_reached_7 rfl (lv_at hl 2 rfl) ?_
  refine pcS hx hb hml hown htb (c_ke_shifted l ((g) (d).toNat) (0) (w) (fun j hj => hok.2.1 _ j hj) (by omega) (by omega) hw) tw_628 tw_629 tw_35 tw_630 3 (by decide +kernel) rfl rfl ⟨Nat.le_of_ble_eq_true rfl, Nat.le_of_ble_eq_true rfl⟩ ⟨Nat.zero_le _, Nat.zero_le _⟩ [.long (bL ((g) (d).toNat)), .int (iI (0)), .int (iI (w))] ⟨fun _ _ _ _ q => q, fun U _ _ => ⟨rfl, trivial⟩⟩ rfl hl.1 rfl (Nat.le_of_ble_eq_true rfl) d_ke_reached_8 ?_
  refine lv_lstore_n hx hb d_ke_reached_11 rfl hl (by decide) rfl (fun ls hl => ?_)
  have hl : lv_has ls 6 [(3, .long (bL (shf ((g) (d).toNat) (0) (w)))), (0, .ref (k0)), (1, .int (iI (d))), (2, .int (iI (w)))] := hl
  refine lv_iconst (v := iI (0)) hx hb d_ke_reached_12 rfl ?_
  refine lv_istore hx hb d_ke_reached_13 hl (by decide) rfl (fun ls hl => ?_)
  have hl : lv_has ls 6 [(5, .int (iI (0))), (3, .long (bL (shf ((g) (d).toNat) (0) (w)))), (0, .ref (k0)), (1, .int (iI (d))), (2, .int (iI (w)))] := hl
  have q_1 : bL (shf ((g) (d).toNat) (0) (w)) = bL (rc g fr tt sh tb (d) (w) (0)) := by first | exact rc_0 | exact rc_no1 (by assumption) | exact rc_no2 (by assumption) | exact rc_yes (by assumption) (by assumption)
  have q_2 : iI (0) = iI ((((0) : Nat) : Int)) := congrArg iI (by omega)
  have hl : lv_has ls 6 [(5, .int (iI ((((0) : Nat) : Int)))), (3, .long (bL (rc g fr tt sh tb (d) (w) (0)))), (0, .ref (k0)), (1, .int (iI (d))), (2, .int (iI (w)))] := lv_eq9 hl (congr (congrArg List.cons (congrArg (fun z => ((5 : Nat), Value.int z)) q_2)) (congr (congrArg List.cons (congrArg (fun z => ((3 : Nat), Value.long z)) q_1)) (congr (congrArg List.cons (Eq.refl ((0 : Nat), Value.ref (k0)))) (congr (congrArg List.cons (Eq.refl ((1 : Nat), Value.int (iI (d))))) (congr (congrArg List.cons (Eq.refl ((2 : Nat), Value.int (iI (w))))) (rfl))))))
  have L15 : ∀ (fu : Nat) (k : Nat), nc - k < fu → k ≤ nc → ∀ ls : Array Slot, lv_has ls 6 [(3, .long (bL (rc g fr tt sh tb (d) (w) k))), (5, .int (iI (((k : Nat) : Int)))), (0, .ref (k0)), (1, .int (iI (d))), (2, .int (iI (w)))] → W p l e (headSpec (Cond.code y_ke_reached prog_3_method_6_code 6 (some .long) :: TB) ({ frames := 1, cells := 0, slots := 0, locals := 24 })).room s m args below meth c s.heap [] 0 0 (MQ below (k2_QcV (.long (bL (rc g fr tt sh tb (d) (w) nc)))) args s 0 0 (fun _ => False)) (F0 m 15 ls []) := by
    intro fu
    induction fu with
    | zero => intro k hfu; exact absurd hfu (Nat.not_lt_zero _)
    | succ fu ih15 =>
      intro k hfu hk ls hl
      refine lv_iload hx hb d_ke_reached_15 (lv_at hl 1 rfl) ?_
      refine lv_aload_n hx hb d_ke_reached_17 rfl (lv_at hl 2 rfl) ?_
      refine va_get (D := (dC, dI)) (ci := 1) (v := .int (iI (((nc : Nat) : Int)))) (C := "OrganConsole$Keywork") (T := T_ke) (N := 6) hx hb htb in_ke hown hK hP 0 rfl rfl 4 (by decide) (htb _ tw_70) (fun _ h9 => h9) rfl d_ke_reached_18 ?_
      refine xi_icmp_ge (tgt := 79) hx hb ⟨by omega, by omega⟩ ⟨by omega, by omega⟩ d_ke_reached_21 (by decide) (fun u_3 => ?_) (fun u_3 => ?_)
      · skip
        refine lv_lload_n hx hb d_ke_reached_79 rfl (lv_at hl 0 rfl) ?_
        have q_4 : bL (rc g fr tt sh tb (d) (w) k) = bL (rc g fr tt sh tb (d) (w) nc) := by
          have : k = nc := by omega
          subst this
          rfl
        rw [q_4]
        exact W.lret (v := bL (rc g fr tt sh tb (d) (w) nc)) hx hb hr (fun t ht hW => ⟨rfl, ht⟩) t_nil d_ke_reached_80
      · skip
        obtain ⟨c1, c2, c3, c4, c5, c6⟩ := hok.2.2 k (by omega)
        refine lv_aload_n hx hb d_ke_reached_24 rfl (lv_at hl 2 rfl) ?_
        refine va_get (D := (dC, dI)) (ci := 1) (v := .ref (k3)) (C := "OrganConsole$Keywork") (T := T_ke) (N := 6) hx hb htb in_ke hown hK hP 0 rfl rfl 2 (by decide) (htb _ tw_68) (fun _ h9 => h9) rfl d_ke_reached_25 ?_
        refine lv_iload hx hb d_ke_reached_28 (lv_at hl 1 rfl) ?_
        refine xa_iald hx hb hK hP 3 0 rfl rfl (k) (by omega) (by omega) (by decide) d_ke_reached_30 ?_
        refine lv_iload_n hx hb d_ke_reached_31 rfl (lv_at hl 3 rfl) ?_
        refine xi_icmp_ne (tgt := 73) hx hb ⟨by omega, by omega⟩ ⟨by omega, by omega⟩ d_ke_reached_32 (by decide) (fun u_5 => ?_) (fun u_5 => ?_)
        · skip
          refine lv_iinc (k := 1) (v := iI (((k : Nat) : Int) + 1)) hx hb d_ke_reached_73 hl rfl (iI_add _ _) (by decide) rfl (fun ls hl => ?_)
          have hl : lv_has ls 6 [(5, .int (iI (((k : Nat) : Int) + 1))), (3, .long (bL (rc g fr tt sh tb (d) (w) k))), (0, .ref (k0)), (1, .int (iI (d))), (2, .int (iI (w)))] := hl
          refine lv_goto (tgt := 15) hx hb d_ke_reached_76 (by decide) ?_
          have q_6 : bL (rc g fr tt sh tb (d) (w) k) = bL (rc g fr tt sh tb (d) (w) (k + 1)) := by first | exact rc_0 | exact rc_no1 (by assumption) | exact rc_no2 (by assumption) | exact rc_yes (by assumption) (by assumption)
          have q_7 : iI (((k : Nat) : Int) + 1) = iI ((((k + 1) : Nat) : Int)) := congrArg iI (by omega)
          have hl : lv_has ls 6 [(5, .int (iI ((((k + 1) : Nat) : Int)))), (3, .long (bL (rc g fr tt sh tb (d) (w) (k + 1)))), (0, .ref (k0)), (1, .int (iI (d))), (2, .int (iI (w)))] := lv_eq9 hl (congr (congrArg List.cons (congrArg (fun z => ((5 : Nat), Value.int z)) q_7)) (congr (congrArg List.cons (congrArg (fun z => ((3 : Nat), Value.long z)) q_6)) (congr (congrArg List.cons (Eq.refl ((0 : Nat), Value.ref (k0)))) (congr (congrArg List.cons (Eq.refl ((1 : Nat), Value.int (iI (d))))) (congr (congrArg List.cons (Eq.refl ((2 : Nat), Value.int (iI (w))))) (rfl))))))
          exact ih15 (k + 1) (by omega) (by omega) _ (lv_sub hl [1, 0, 2, 3, 4] rfl)
        · skip
          refine lv_aload_n hx hb d_ke_reached_35 rfl (lv_at hl 2 rfl) ?_
          refine va_get (D := (dC, dI)) (ci := 1) (v := .long (bL (tb))) (C := "OrganConsole$Keywork") (T := T_ke) (N := 6) hx hb htb in_ke hown hK hP 0 rfl rfl 5 (by decide) (htb _ tw_72) (fun _ h9 => h9) rfl d_ke_reached_36 ?_
          refine lv_iload hx hb d_ke_reached_39 (lv_at hl 1 rfl) ?_
          refine pcN hx hb hml hown htb (c_oc_has l (tb) (k) _ (by omega) (by omega)) (nb_631 hN) tw_428 tw_34 tw_429 2 (by decide +kernel) rfl rfl ⟨Nat.le_of_ble_eq_true rfl, Nat.le_of_ble_eq_true rfl⟩ ⟨Nat.zero_le _, Nat.zero_le _⟩ [.long (bL (tb)), .int (iI (((k : Nat) : Int)))] ⟨fun _ _ _ _ q => q, fun U _ _ => ⟨rfl, trivial⟩⟩ rfl hl.1 rfl (Nat.le_of_ble_eq_true rfl) d_ke_reached_41 ?_
          refine xz_if_eq (tgt := 73) hx hb d_ke_reached_44 (by decide) (fun u_8 => ?_) (fun u_8 => ?_)
          · skip
            refine lv_iinc (k := 1) (v := iI (((k : Nat) : Int) + 1)) hx hb d_ke_reached_73 hl rfl (iI_add _ _) (by decide) rfl (fun ls hl => ?_)
            have hl : lv_has ls 6 [(5, .int (iI (((k : Nat) : Int) + 1))), (3, .long (bL (rc g fr tt sh tb (d) (w) k))), (0, .ref (k0)), (1, .int (iI (d))), (2, .int (iI (w)))] := hl
            refine lv_goto (tgt := 15) hx hb d_ke_reached_76 (by decide) ?_
            have q_9 : bL (rc g fr tt sh tb (d) (w) k) = bL (rc g fr tt sh tb (d) (w) (k + 1)) := by first | exact rc_0 | exact rc_no1 (by assumption) | exact rc_no2 (by assumption) | exact rc_yes (by assumption) (by assumption)
            have q_10 : iI (((k : Nat) : Int) + 1) = iI ((((k + 1) : Nat) : Int)) := congrArg iI (by omega)
            have hl : lv_has ls 6 [(5, .int (iI ((((k + 1) : Nat) : Int)))), (3, .long (bL (rc g fr tt sh tb (d) (w) (k + 1)))), (0, .ref (k0)), (1, .int (iI (d))), (2, .int (iI (w)))] := lv_eq9 hl (congr (congrArg List.cons (congrArg (fun z => ((5 : Nat), Value.int z)) q_10)) (congr (congrArg List.cons (congrArg (fun z => ((3 : Nat), Value.long z)) q_9)) (congr (congrArg List.cons (Eq.refl ((0 : Nat), Value.ref (k0)))) (congr (congrArg List.cons (Eq.refl ((1 : Nat), Value.int (iI (d))))) (congr (congrArg List.cons (Eq.refl ((2 : Nat), Value.int (iI (w))))) (rfl))))))
            exact ih15 (k + 1) (by omega) (by omega) _ (lv_sub hl [1, 0, 2, 3, 4] rfl)
          · skip
            refine lv_lload_n hx hb d_ke_reached_47 rfl (lv_at hl 0 rfl) ?_
            refine lv_aload_n hx hb d_ke_reached_48 rfl (lv_at hl 2 rfl) ?_
            refine va_get (D := (dC, dI)) (ci := 1) (v := .ref (k1)) (C := "OrganConsole$Keywork") (T := T_ke) (N := 6) hx hb htb in_ke hown hK hP 0 rfl rfl 0 (by decide) (htb _ tw_65) (fun _ h9 => h9) rfl d_ke_reached_49 ?_
            refine lv_aload_n hx hb d_ke_reached_52 rfl (lv_at hl 2 rfl) ?_
            refine va_get (D := (dC, dI)) (ci := 1) (v := .ref (k2)) (C := "OrganConsole$Keywork") (T := T_ke) (N := 6) hx hb htb in_ke hown hK hP 0 rfl rfl 1 (by decide) (htb _ tw_67) (fun _ h9 => h9) rfl d_ke_reached_53 ?_
            refine lv_iload hx hb d_ke_reached_56 (lv_at hl 1 rfl) ?_
            refine xa_iald hx hb hK hP 2 0 rfl rfl (k) (by omega) (by omega) (by decide) d_ke_reached_58 ?_
            refine xa_bald hx hb hK hP 1 1 rfl rfl ((fr) (k)).toNat (by omega) (by omega) (by decide) d_ke_reached_59 ?_
            refine lv_aload_n hx hb d_ke_reached_60 rfl (lv_at hl 2 rfl) ?_
            refine va_get (D := (dC, dI)) (ci := 1) (v := .ref (k4)) (C := "OrganConsole$Keywork") (T := T_ke) (N := 6) hx hb htb in_ke hown hK hP 0 rfl rfl 3 (by decide) (htb _ tw_69) (fun _ h9 => h9) rfl d_ke_reached_61 ?_
            refine lv_iload hx hb d_ke_reached_64 (lv_at hl 1 rfl) ?_
            refine xa_iald hx hb hK hP 4 0 rfl rfl (k) (by omega) (by omega) (by decide) d_ke_reached_66 ?_
            refine lv_iload_n hx hb d_ke_reached_67 rfl (lv_at hl 4 rfl) ?_
            refine pcS hx hb hml hown htb (c_ke_shifted l ((g) ((fr) (k)).toNat) ((sh) (k)) (w) (fun j hj => hok.2.1 _ j hj) (by omega) (by omega) hw) tw_628 tw_629 tw_35 tw_630 3 (by decide +kernel) rfl rfl ⟨Nat.le_of_ble_eq_true rfl, Nat.le_of_ble_eq_true rfl⟩ ⟨Nat.zero_le _, Nat.zero_le _⟩ [.long (bL ((g) ((fr) (k)).toNat)), .int (iI ((sh) (k))), .int (iI (w))] ⟨fun _ _ _ _ q => q, fun U _ _ => ⟨rfl, trivial⟩⟩ rfl hl.1 rfl (Nat.le_of_ble_eq_true rfl) d_ke_reached_68 ?_
            refine xb_or (f := rc g fr tt sh tb (d) (w) k) (g := shf ((g) ((fr) (k)).toNat) ((sh) (k)) (w)) hx hb d_ke_reached_71 ?_
            refine lv_lstore_n hx hb d_ke_reached_72 rfl hl (by decide) rfl (fun ls hl => ?_)
            have hl : lv_has ls 6 [(3, .long (bL (fun j => (rc g fr tt sh tb (d) (w) k) j || (shf ((g) ((fr) (k)).toNat) ((sh) (k)) (w)) j))), (5, .int (iI (((k : Nat) : Int)))), (0, .ref (k0)), (1, .int (iI (d))), (2, .int (iI (w)))] := hl
            refine lv_iinc (k := 1) (v := iI (((k : Nat) : Int) + 1)) hx hb d_ke_reached_73 hl rfl (iI_add _ _) (by decide) rfl (fun ls hl => ?_)
            have hl : lv_has ls 6 [(5, .int (iI (((k : Nat) : Int) + 1))), (3, .long (bL (fun j => (rc g fr tt sh tb (d) (w) k) j || (shf ((g) ((fr) (k)).toNat) ((sh) (k)) (w)) j))), (0, .ref (k0)), (1, .int (iI (d))), (2, .int (iI (w)))] := hl
            refine lv_goto (tgt := 15) hx hb d_ke_reached_76 (by decide) ?_
            have q_11 : bL (fun j => (rc g fr tt sh tb (d) (w) k) j || (shf ((g) ((fr) (k)).toNat) ((sh) (k)) (w)) j) = bL (rc g fr tt sh tb (d) (w) (k + 1)) := by first | exact rc_0 | exact rc_no1 (by assumption) | exact rc_no2 (by assumption) | exact rc_yes (by assumption) (by assumption)
            have q_12 : iI (((k : Nat) : Int) + 1) = iI ((((k + 1) : Nat) : Int)) := congrArg iI (by omega)
            have hl : lv_has ls 6 [(5, .int (iI ((((k + 1) : Nat) : Int)))), (3, .long (bL (rc g fr tt sh tb (d) (w) (k + 1)))), (0, .ref (k0)), (1, .int (iI (d))), (2, .int (iI (w)))] := lv_eq9 hl (congr (congrArg List.cons (congrArg (fun z => ((5 : Nat), Value.int z)) q_12)) (congr (congrArg List.cons (congrArg (fun z => ((3 : Nat), Value.long z)) q_11)) (congr (congrArg List.cons (Eq.refl ((0 : Nat), Value.ref (k0)))) (congr (congrArg List.cons (Eq.refl ((1 : Nat), Value.int (iI (d))))) (congr (congrArg List.cons (Eq.refl ((2 : Nat), Value.int (iI (w))))) (rfl))))))
            exact ih15 (k + 1) (by omega) (by omega) _ (lv_sub hl [1, 0, 2, 3, 4] rfl)
  exact L15 ((nc - (0)) + 1) (0) (Nat.lt_succ_self _) (Nat.zero_le _) _ (lv_sub hl [1, 0, 2, 3, 4] rfl)

set_option maxHeartbeats 200000 in
set_option maxRecDepth 100000 in
theorem c_ke_reachedBetween (l : Launch) (dC : Nat → ClassId) (dI : Nat → Nat → Nat) (cI cL cZ : ClassId) (k0 k1 k2 k3 k4 : Nat) (g : Nat → Nat → Bool) (fr tt sh : Nat → Int) (nc : Nat) (tb : Nat → Bool) (hok : kwOk g fr tt sh nc) (d a b : Int) (hd : 0 ≤ d) (hd5 : d < 5) (h1 : -2000 ≤ a) (h2 : a ≤ 2000) (h3 : -2000 ≤ b) (h4 : b ≤ 2000) : Met l y_ke_reachedBetween (Cond.code y_ke_reachedBetween prog_3_method_5_code 6 (some .int) :: TB) ({ frames := 2, cells := 0, slots := 0, locals := 49 }) (va_Pc [.ref (k0), .int (iI (d)), .int (iI (a)), .int (iI (b))] (PN dC dI [(k0, .inr (1, [.ref (k1), .ref (k2), .ref (k3), .ref (k4), .int (iI (((nc : Nat) : Int))), .long (bL (tb))])), (k1, .inl (cL, 5, .inr (.inl (aB (g))))), (k2, .inl (cI, 16, .inl (aI (fr)))), (k3, .inl (cI, 16, .inl (aI (tt)))), (k4, .inl (cI, 16, .inl (aI (sh))))] [(cI, .int), (cL, .long), (cZ, .boolean)])) (k2_QcV (.int (iI (((rb g fr tt sh tb nc d a b : Nat) : Int))))) 0 0 (fun _ => False) := by
  refine Met.ofW (cc := prog_3_method_5_code) (maxL := 6) (ret := (some .int)) (by decide) rfl ?_
  intro p e s m args below meth c s₁ B hml hv
  obtain ⟨ha, hP, hK, hN⟩ := hv
  have hx := B.exec
  have hb := B.bytes
  have hr := B.returns
  have htb : ∀ w ∈ TB, w.before args s = true := fun w h => atoms_spec (ws := Cond.code y_ke_reachedBetween prog_3_method_5_code 6 (some .int) :: TB) B.pre w (List.mem_cons_of_mem _ h)
  have hown : s.vm.findClass "OrganConsole$Keywork" = some m.cls := findClass_of_methodNamed B.named
  have hlocks := B.notSynchronized
  have hl := lv_entry ([.ref (k0), .int (iI (d)), .int (iI (a)), .int (iI (b))]) (n := 6) (Nat.le_of_ble_eq_true rfl)
  refine W.eq (g2 := F0 m 0 _ []) (by rw [ha]; exact lg_entry_eq m ([.ref (k0), .int (iI (d)), .int (iI (a)), .int (iI (b))]) 6) ?_
  generalize (lg_sl ([.ref (k0), .int (iI (d)), .int (iI (a)), .int (iI (b))]) ++ List.replicate (6 - (lg_sl ([.ref (k0), .int (iI (d)), .int (iI (a)), .int (iI (b))])).length) Slot.unset).toArray = ls at hl ⊢
  have hl : lv_has ls 6 [(0, .ref (k0)), (1, .int (iI (d))), (2, .int (iI (a))), (3, .int (iI (b)))] := hl
  refine lv_iconst (v := iI (0)) hx hb d_ke_reachedBetween_0 rfl ?_
  refine lv_istore hx hb d_ke_reachedBetween_1 hl (by decide) rfl (fun ls hl => ?_)
  have hl : lv_has ls 6 [(4, .int (iI (0))), (0, .ref (k0)), (1, .int (iI (d))), (2, .int (iI (a))), (3, .int (iI (b)))] := hl
  refine lv_iconst (v := iI (0)) hx hb d_ke_reachedBetween_3 rfl ?_
  refine lv_istore hx hb d_ke_reachedBetween_4 hl (by decide) rfl (fun ls hl => ?_)
  have hl : lv_has ls 6 [(5, .int (iI (0))), (4, .int (iI (0))), (0, .ref (k0)), (1, .int (iI (d))), (2, .int (iI (a))), (3, .int (iI (b)))] := hl
  refine lv_iload hx hb d_ke_reachedBetween_6 (lv_at hl 0 rfl) ?_
  refine lv_iconst (v := iI (2)) hx hb d_ke_reachedBetween_8 rfl ?_
  refine xi_icmp_ge (tgt := 41) hx hb ⟨by omega, by omega⟩ ⟨by omega, by omega⟩ d_ke_reachedBetween_9 (by decide) (fun u_1 => ?_) (fun u_1 => ?_)
  · exact absurd u_1 (by decide)
  refine lv_iload hx hb d_ke_reachedBetween_12 (lv_at hl 1 rfl) ?_
  refine lv_aload_n hx hb d_ke_reachedBetween_14 rfl (lv_at hl 2 rfl) ?_
  refine lv_iload_n hx hb d_ke_reachedBetween_15 rfl (lv_at hl 3 rfl) ?_
  refine lv_iload hx hb d_ke_reachedBetween_16 (lv_at hl 0 rfl) ?_
  refine pcV hx hb hml hown htb (c_ke_reached l dC dI cI cL cZ k0 k1 k2 k3 k4 g fr tt sh nc tb hok (d) (0) (by omega) (by omega) (by omega)) tw_624 tw_626 tw_13 tw_35 tw_627 2 (by decide +kernel) rfl rfl ⟨Nat.le_of_ble_eq_true rfl, Nat.le_of_ble_eq_true rfl⟩ ⟨Nat.zero_le _, Nat.zero_le _⟩ [.int (iI (d)), .int (iI (0))] (PN_V (q0 := 0) (ci := 1) hP hP hK hN rfl rfl) rfl hl.1 rfl (Nat.le_of_ble_eq_true rfl) d_ke_reachedBetween_18 ?_
  refine lv_iload_n hx hb d_ke_reachedBetween_21 rfl (lv_at hl 4 rfl) ?_
  refine lv_iload_n hx hb d_ke_reachedBetween_22 rfl (lv_at hl 5 rfl) ?_
  refine lv_iload hx hb d_ke_reachedBetween_23 (lv_at hl 0 rfl) ?_
  refine pcS hx hb hml hown htb (c_ke_span l (a) (b) (0) (by omega) (by omega) (by omega) (by omega) (by omega)) tw_632 tw_633 tw_35 tw_634 3 (by decide +kernel) rfl rfl ⟨Nat.le_of_ble_eq_true rfl, Nat.le_of_ble_eq_true rfl⟩ ⟨Nat.zero_le _, Nat.zero_le _⟩ [.int (iI (a)), .int (iI (b)), .int (iI (0))] ⟨fun _ _ _ _ q => q, fun U _ _ => ⟨rfl, trivial⟩⟩ rfl hl.1 rfl (Nat.le_of_ble_eq_true rfl) d_ke_reachedBetween_25 ?_
  refine xb_and (f := rc g fr tt sh tb (d) (0) nc) (g := spn (a) (b) (0)) hx hb d_ke_reachedBetween_28 ?_
  refine pcS hx hb hml hown htb (c_jl_bitCount' l (fun j => (rc g fr tt sh tb (d) (0) nc) j && (spn (a) (b) (0)) j)) tw_642 tw_506 tw_47 tw_507 1 (by decide +kernel) rfl rfl ⟨Nat.le_of_ble_eq_true rfl, Nat.le_of_ble_eq_true rfl⟩ ⟨Nat.zero_le _, Nat.zero_le _⟩ [.long (bL (fun j => (rc g fr tt sh tb (d) (0) nc) j && (spn (a) (b) (0)) j))] ⟨fun _ _ _ _ q => q, fun U _ _ => ⟨rfl, trivial⟩⟩ rfl hl.1 rfl (Nat.le_of_ble_eq_true rfl) d_ke_reachedBetween_29 ?_
  refine xi_add hx hb d_ke_reachedBetween_32 ?_
  refine lv_istore hx hb d_ke_reachedBetween_33 hl (by decide) rfl (fun ls hl => ?_)
  have hl : lv_has ls 6 [(4, .int (iI ((0) + (((cnt (fun j => (rc g fr tt sh tb (d) (0) nc) j && (spn (a) (b) (0)) j) 64 : Nat) : Int))))), (5, .int (iI (0))), (0, .ref (k0)), (1, .int (iI (d))), (2, .int (iI (a))), (3, .int (iI (b)))] := hl
  refine lv_iinc (k := 1) (v := iI (1)) hx hb d_ke_reachedBetween_35 hl rfl (by decide +kernel) (by decide) rfl (fun ls hl => ?_)
  have hl : lv_has ls 6 [(5, .int (iI (1))), (4, .int (iI ((0) + (((cnt (fun j => (rc g fr tt sh tb (d) (0) nc) j && (spn (a) (b) (0)) j) 64 : Nat) : Int))))), (0, .ref (k0)), (1, .int (iI (d))), (2, .int (iI (a))), (3, .int (iI (b)))] := hl
  refine lv_goto (tgt := 6) hx hb d_ke_reachedBetween_38 (by decide) ?_
  refine lv_iload hx hb d_ke_reachedBetween_6 (lv_at hl 0 rfl) ?_
  refine lv_iconst (v := iI (2)) hx hb d_ke_reachedBetween_8 rfl ?_
  refine xi_icmp_ge (tgt := 41) hx hb ⟨by omega, by omega⟩ ⟨by omega, by omega⟩ d_ke_reachedBetween_9 (by decide) (fun u_2 => ?_) (fun u_2 => ?_)
  · exact absurd u_2 (by decide)
  refine lv_iload hx hb d_ke_reachedBetween_12 (lv_at hl 1 rfl) ?_
  refine lv_aload_n hx hb d_ke_reachedBetween_14 rfl (lv_at hl 2 rfl) ?_
  refine lv_iload_n hx hb d_ke_reachedBetween_15 rfl (lv_at hl 3 rfl) ?_
  refine lv_iload hx hb d_ke_reachedBetween_16 (lv_at hl 0 rfl) ?_
  refine pcV hx hb hml hown htb (c_ke_reached l dC dI cI cL cZ k0 k1 k2 k3 k4 g fr tt sh nc tb hok (d) (1) (by omega) (by omega) (by omega)) tw_624 tw_626 tw_13 tw_35 tw_627 2 (by decide +kernel) rfl rfl ⟨Nat.le_of_ble_eq_true rfl, Nat.le_of_ble_eq_true rfl⟩ ⟨Nat.zero_le _, Nat.zero_le _⟩ [.int (iI (d)), .int (iI (1))] (PN_V (q0 := 0) (ci := 1) hP hP hK hN rfl rfl) rfl hl.1 rfl (Nat.le_of_ble_eq_true rfl) d_ke_reachedBetween_18 ?_
  refine lv_iload_n hx hb d_ke_reachedBetween_21 rfl (lv_at hl 4 rfl) ?_
  refine lv_iload_n hx hb d_ke_reachedBetween_22 rfl (lv_at hl 5 rfl) ?_
  refine lv_iload hx hb d_ke_reachedBetween_23 (lv_at hl 0 rfl) ?_
  refine pcS hx hb hml hown htb (c_ke_span l (a) (b) (1) (by omega) (by omega) (by omega) (by omega) (by omega)) tw_632 tw_633 tw_35 tw_634 3 (by decide +kernel) rfl rfl ⟨Nat.le_of_ble_eq_true rfl, Nat.le_of_ble_eq_true rfl⟩ ⟨Nat.zero_le _, Nat.zero_le _⟩ [.int (iI (a)), .int (iI (b)), .int (iI (1))] ⟨fun _ _ _ _ q => q, fun U _ _ => ⟨rfl, trivial⟩⟩ rfl hl.1 rfl (Nat.le_of_ble_eq_true rfl) d_ke_reachedBetween_25 ?_
  refine xb_and (f := rc g fr tt sh tb (d) (1) nc) (g := spn (a) (b) (1)) hx hb d_ke_reachedBetween_28 ?_
  refine pcS hx hb hml hown htb (c_jl_bitCount' l (fun j => (rc g fr tt sh tb (d) (1) nc) j && (spn (a) (b) (1)) j)) tw_642 tw_506 tw_47 tw_507 1 (by decide +kernel) rfl rfl ⟨Nat.le_of_ble_eq_true rfl, Nat.le_of_ble_eq_true rfl⟩ ⟨Nat.zero_le _, Nat.zero_le _⟩ [.long (bL (fun j => (rc g fr tt sh tb (d) (1) nc) j && (spn (a) (b) (1)) j))] ⟨fun _ _ _ _ q => q, fun U _ _ => ⟨rfl, trivial⟩⟩ rfl hl.1 rfl (Nat.le_of_ble_eq_true rfl) d_ke_reachedBetween_29 ?_
  refine xi_add hx hb d_ke_reachedBetween_32 ?_
  refine lv_istore hx hb d_ke_reachedBetween_33 hl (by decide) rfl (fun ls hl => ?_)
  have hl : lv_has ls 6 [(4, .int (iI (((0) + (((cnt (fun j => (rc g fr tt sh tb (d) (0) nc) j && (spn (a) (b) (0)) j) 64 : Nat) : Int))) + (((cnt (fun j => (rc g fr tt sh tb (d) (1) nc) j && (spn (a) (b) (1)) j) 64 : Nat) : Int))))), (5, .int (iI (1))), (0, .ref (k0)), (1, .int (iI (d))), (2, .int (iI (a))), (3, .int (iI (b)))] := hl
  refine lv_iinc (k := 1) (v := iI (2)) hx hb d_ke_reachedBetween_35 hl rfl (by decide +kernel) (by decide) rfl (fun ls hl => ?_)
  have hl : lv_has ls 6 [(5, .int (iI (2))), (4, .int (iI (((0) + (((cnt (fun j => (rc g fr tt sh tb (d) (0) nc) j && (spn (a) (b) (0)) j) 64 : Nat) : Int))) + (((cnt (fun j => (rc g fr tt sh tb (d) (1) nc) j && (spn (a) (b) (1)) j) 64 : Nat) : Int))))), (0, .ref (k0)), (1, .int (iI (d))), (2, .int (iI (a))), (3, .int (iI (b)))] := hl
  refine lv_goto (tgt := 6) hx hb d_ke_reachedBetween_38 (by decide) ?_
  refine lv_iload hx hb d_ke_reachedBetween_6 (lv_at hl 0 rfl) ?_
  refine lv_iconst (v := iI (2)) hx hb d_ke_reachedBetween_8 rfl ?_
  refine xi_icmp_ge (tgt := 41) hx hb ⟨by omega, by omega⟩ ⟨by omega, by omega⟩ d_ke_reachedBetween_9 (by decide) (fun u_3 => ?_) (fun u_3 => ?_)
  rotate_left
  · exact absurd u_3 (by decide)
  refine lv_iload hx hb d_ke_reachedBetween_41 (lv_at hl 1 rfl) ?_
  have q_4 : iI (((0) + (((cnt (fun j => (rc g fr tt sh tb (d) (0) nc) j && (spn (a) (b) (0)) j) 64 : Nat) : Int))) + (((cnt (fun j => (rc g fr tt sh tb (d) (1) nc) j && (spn (a) (b) (1)) j) 64 : Nat) : Int))) = iI (((rb g fr tt sh tb nc d a b : Nat) : Int)) := by
    refine congrArg iI ?_
    unfold rb
    omega
  rw [q_4]
  exact W.iret (v := iI (((rb g fr tt sh tb nc d a b : Nat) : Int))) hx hb hr (fun t ht hW => ⟨rfl, ht⟩) t_nil d_ke_reachedBetween_43

set_option maxHeartbeats 200000 in
set_option maxRecDepth 100000 in
theorem c_ke_keysDown (l : Launch) (dC : Nat → ClassId) (dI : Nat → Nat → Nat) (cI cL cZ : ClassId) (k0 k1 k2 k3 k4 : Nat) (g : Nat → Nat → Bool) (fr tt sh : Nat → Int) (nc : Nat) (tb : Nat → Bool) (hok : kwOk g fr tt sh nc) : Met l y_ke_keysDown (Cond.code y_ke_keysDown prog_3_method_3_code 3 (some .int) :: TB) ({ frames := 1, cells := 0, slots := 0, locals := 21 }) (va_Pc [.ref (k0)] (PW dC dI [(k0, .inr (1, [.ref (k1), .ref (k2), .ref (k3), .ref (k4), .int (iI (((nc : Nat) : Int))), .long (bL (tb))])), (k1, .inl (cL, 5, .inr (.inl (aB (g))))), (k2, .inl (cI, 16, .inl (aI (fr)))), (k3, .inl (cI, 16, .inl (aI (tt)))), (k4, .inl (cI, 16, .inl (aI (sh))))] [(cI, .int), (cL, .long), (cZ, .boolean)])) (k2_QcV (.int (iI (((kd g : Nat) : Int))))) 0 0 (fun _ => False) := by
  refine Met.ofW (cc := prog_3_method_3_code) (maxL := 3) (ret := (some .int)) (by decide) rfl ?_
  intro p e s m args below meth c s₁ B hml hv
  obtain ⟨ha, hP, hK⟩ := hv
  have hx := B.exec
  have hb := B.bytes
  have hr := B.returns
  have htb : ∀ w ∈ TB, w.before args s = true := fun w h => atoms_spec (ws := Cond.code y_ke_keysDown prog_3_method_3_code 3 (some .int) :: TB) B.pre w (List.mem_cons_of_mem _ h)
  have hown : s.vm.findClass "OrganConsole$Keywork" = some m.cls := findClass_of_methodNamed B.named
  have hlocks := B.notSynchronized
  have hl := lv_entry ([.ref (k0)]) (n := 3) (Nat.le_of_ble_eq_true rfl)
  refine W.eq (g2 := F0 m 0 _ []) (by rw [ha]; exact lg_entry_eq m ([.ref (k0)]) 3) ?_
  generalize (lg_sl ([.ref (k0)]) ++ List.replicate (3 - (lg_sl ([.ref (k0)])).length) Slot.unset).toArray = ls at hl ⊢
  have hl : lv_has ls 3 [(0, .ref (k0))] := hl
  refine lv_iconst (v := iI (0)) hx hb d_ke_keysDown_0 rfl ?_
  refine lv_istore_n hx hb d_ke_keysDown_1 rfl hl (by decide) rfl (fun ls hl => ?_)
  have hl : lv_has ls 3 [(1, .int (iI (0))), (0, .ref (k0))] := hl
  refine lv_iconst (v := iI (0)) hx hb d_ke_keysDown_2 rfl ?_
  refine lv_istore_n hx hb d_ke_keysDown_3 rfl hl (by decide) rfl (fun ls hl => ?_)
  have hl : lv_has ls 3 [(2, .int (iI (0))), (1, .int (iI (0))), (0, .ref (k0))] := hl
  refine lv_iload_n hx hb d_ke_keysDown_4 rfl (lv_at hl 0 rfl) ?_
  refine lv_iconst (v := iI (5)) hx hb d_ke_keysDown_5 rfl ?_
  refine xi_icmp_ge (tgt := 27) hx hb ⟨by omega, by omega⟩ ⟨by omega, by omega⟩ d_ke_keysDown_6 (by decide) (fun u_1 => ?_) (fun u_1 => ?_)
  · exact absurd u_1 (by decide)
  refine lv_iload_n hx hb d_ke_keysDown_9 rfl (lv_at hl 1 rfl) ?_
  refine lv_aload_n hx hb d_ke_keysDown_10 rfl (lv_at hl 2 rfl) ?_
  refine va_get (D := (dC, dI)) (ci := 1) (v := .ref (k1)) (C := "OrganConsole$Keywork") (T := T_ke) (N := 6) hx hb htb in_ke hown hK hP 0 rfl rfl 0 (by decide) (htb _ tw_65) (fun _ h9 => h9) rfl d_ke_keysDown_11 ?_
  refine lv_iload_n hx hb d_ke_keysDown_14 rfl (lv_at hl 0 rfl) ?_
  refine xa_bald hx hb hK hP 1 1 rfl rfl 0 (by rfl) (by omega) (by decide) d_ke_keysDown_15 ?_
  refine pcS hx hb hml hown htb (c_jl_bitCount' l ((g) 0)) tw_642 tw_506 tw_47 tw_507 1 (by decide +kernel) rfl rfl ⟨Nat.le_of_ble_eq_true rfl, Nat.le_of_ble_eq_true rfl⟩ ⟨Nat.zero_le _, Nat.zero_le _⟩ [.long (bL ((g) 0))] ⟨fun _ _ _ _ q => q, fun U _ _ => ⟨rfl, trivial⟩⟩ rfl hl.1 rfl (Nat.le_of_ble_eq_true rfl) d_ke_keysDown_16 ?_
  refine xi_add hx hb d_ke_keysDown_19 ?_
  refine lv_istore_n hx hb d_ke_keysDown_20 rfl hl (by decide) rfl (fun ls hl => ?_)
  have hl : lv_has ls 3 [(1, .int (iI ((0) + (((cnt ((g) 0) 64 : Nat) : Int))))), (2, .int (iI (0))), (0, .ref (k0))] := hl
  refine lv_iinc (k := 1) (v := iI (1)) hx hb d_ke_keysDown_21 hl rfl (by decide +kernel) (by decide) rfl (fun ls hl => ?_)
  have hl : lv_has ls 3 [(2, .int (iI (1))), (1, .int (iI ((0) + (((cnt ((g) 0) 64 : Nat) : Int))))), (0, .ref (k0))] := hl
  refine lv_goto (tgt := 4) hx hb d_ke_keysDown_24 (by decide) ?_
  refine lv_iload_n hx hb d_ke_keysDown_4 rfl (lv_at hl 0 rfl) ?_
  refine lv_iconst (v := iI (5)) hx hb d_ke_keysDown_5 rfl ?_
  refine xi_icmp_ge (tgt := 27) hx hb ⟨by omega, by omega⟩ ⟨by omega, by omega⟩ d_ke_keysDown_6 (by decide) (fun u_2 => ?_) (fun u_2 => ?_)
  · exact absurd u_2 (by decide)
  refine lv_iload_n hx hb d_ke_keysDown_9 rfl (lv_at hl 1 rfl) ?_
  refine lv_aload_n hx hb d_ke_keysDown_10 rfl (lv_at hl 2 rfl) ?_
  refine va_get (D := (dC, dI)) (ci := 1) (v := .ref (k1)) (C := "OrganConsole$Keywork") (T := T_ke) (N := 6) hx hb htb in_ke hown hK hP 0 rfl rfl 0 (by decide) (htb _ tw_65) (fun _ h9 => h9) rfl d_ke_keysDown_11 ?_
  refine lv_iload_n hx hb d_ke_keysDown_14 rfl (lv_at hl 0 rfl) ?_
  refine xa_bald hx hb hK hP 1 1 rfl rfl 1 (by rfl) (by omega) (by decide) d_ke_keysDown_15 ?_
  refine pcS hx hb hml hown htb (c_jl_bitCount' l ((g) 1)) tw_642 tw_506 tw_47 tw_507 1 (by decide +kernel) rfl rfl ⟨Nat.le_of_ble_eq_true rfl, Nat.le_of_ble_eq_true rfl⟩ ⟨Nat.zero_le _, Nat.zero_le _⟩ [.long (bL ((g) 1))] ⟨fun _ _ _ _ q => q, fun U _ _ => ⟨rfl, trivial⟩⟩ rfl hl.1 rfl (Nat.le_of_ble_eq_true rfl) d_ke_keysDown_16 ?_
  refine xi_add hx hb d_ke_keysDown_19 ?_
  refine lv_istore_n hx hb d_ke_keysDown_20 rfl hl (by decide) rfl (fun ls hl => ?_)
  have hl : lv_has ls 3 [(1, .int (iI (((0) + (((cnt ((g) 0) 64 : Nat) : Int))) + (((cnt ((g) 1) 64 : Nat) : Int))))), (2, .int (iI (1))), (0, .ref (k0))] := hl
  refine lv_iinc (k := 1) (v := iI (2)) hx hb d_ke_keysDown_21 hl rfl (by decide +kernel) (by decide) rfl (fun ls hl => ?_)
  have hl : lv_has ls 3 [(2, .int (iI (2))), (1, .int (iI (((0) + (((cnt ((g) 0) 64 : Nat) : Int))) + (((cnt ((g) 1) 64 : Nat) : Int))))), (0, .ref (k0))] := hl
  refine lv_goto (tgt := 4) hx hb d_ke_keysDown_24 (by decide) ?_
  refine lv_iload_n hx hb d_ke_keysDown_4 rfl (lv_at hl 0 rfl) ?_
  refine lv_iconst (v := iI (5)) hx hb d_ke_keysDown_5 rfl ?_
  refine xi_icmp_ge (tgt := 27) hx hb ⟨by omega, by omega⟩ ⟨by omega, by omega⟩ d_ke_keysDown_6 (by decide) (fun u_3 => ?_) (fun u_3 => ?_)
  · exact absurd u_3 (by decide)
  refine lv_iload_n hx hb d_ke_keysDown_9 rfl (lv_at hl 1 rfl) ?_
  refine lv_aload_n hx hb d_ke_keysDown_10 rfl (lv_at hl 2 rfl) ?_
  refine va_get (D := (dC, dI)) (ci := 1) (v := .ref (k1)) (C := "OrganConsole$Keywork") (T := T_ke) (N := 6) hx hb htb in_ke hown hK hP 0 rfl rfl 0 (by decide) (htb _ tw_65) (fun _ h9 => h9) rfl d_ke_keysDown_11 ?_
  refine lv_iload_n hx hb d_ke_keysDown_14 rfl (lv_at hl 0 rfl) ?_
  refine xa_bald hx hb hK hP 1 1 rfl rfl 2 (by rfl) (by omega) (by decide) d_ke_keysDown_15 ?_
  refine pcS hx hb hml hown htb (c_jl_bitCount' l ((g) 2)) tw_642 tw_506 tw_47 tw_507 1 (by decide +kernel) rfl rfl ⟨Nat.le_of_ble_eq_true rfl, Nat.le_of_ble_eq_true rfl⟩ ⟨Nat.zero_le _, Nat.zero_le _⟩ [.long (bL ((g) 2))] ⟨fun _ _ _ _ q => q, fun U _ _ => ⟨rfl, trivial⟩⟩ rfl hl.1 rfl (Nat.le_of_ble_eq_true rfl) d_ke_keysDown_16 ?_
  refine xi_add hx hb d_ke_keysDown_19 ?_
  refine lv_istore_n hx hb d_ke_keysDown_20 rfl hl (by decide) rfl (fun ls hl => ?_)
  have hl : lv_has ls 3 [(1, .int (iI ((((0) + (((cnt ((g) 0) 64 : Nat) : Int))) + (((cnt ((g) 1) 64 : Nat) : Int))) + (((cnt ((g) 2) 64 : Nat) : Int))))), (2, .int (iI (2))), (0, .ref (k0))] := hl
  refine lv_iinc (k := 1) (v := iI (3)) hx hb d_ke_keysDown_21 hl rfl (by decide +kernel) (by decide) rfl (fun ls hl => ?_)
  have hl : lv_has ls 3 [(2, .int (iI (3))), (1, .int (iI ((((0) + (((cnt ((g) 0) 64 : Nat) : Int))) + (((cnt ((g) 1) 64 : Nat) : Int))) + (((cnt ((g) 2) 64 : Nat) : Int))))), (0, .ref (k0))] := hl
  refine lv_goto (tgt := 4) hx hb d_ke_keysDown_24 (by decide) ?_
  refine lv_iload_n hx hb d_ke_keysDown_4 rfl (lv_at hl 0 rfl) ?_
  refine lv_iconst (v := iI (5)) hx hb d_ke_keysDown_5 rfl ?_
  refine xi_icmp_ge (tgt := 27) hx hb ⟨by omega, by omega⟩ ⟨by omega, by omega⟩ d_ke_keysDown_6 (by decide) (fun u_4 => ?_) (fun u_4 => ?_)
  · exact absurd u_4 (by decide)
  refine lv_iload_n hx hb d_ke_keysDown_9 rfl (lv_at hl 1 rfl) ?_
  refine lv_aload_n hx hb d_ke_keysDown_10 rfl (lv_at hl 2 rfl) ?_
  refine va_get (D := (dC, dI)) (ci := 1) (v := .ref (k1)) (C := "OrganConsole$Keywork") (T := T_ke) (N := 6) hx hb htb in_ke hown hK hP 0 rfl rfl 0 (by decide) (htb _ tw_65) (fun _ h9 => h9) rfl d_ke_keysDown_11 ?_
  refine lv_iload_n hx hb d_ke_keysDown_14 rfl (lv_at hl 0 rfl) ?_
  refine xa_bald hx hb hK hP 1 1 rfl rfl 3 (by rfl) (by omega) (by decide) d_ke_keysDown_15 ?_
  refine pcS hx hb hml hown htb (c_jl_bitCount' l ((g) 3)) tw_642 tw_506 tw_47 tw_507 1 (by decide +kernel) rfl rfl ⟨Nat.le_of_ble_eq_true rfl, Nat.le_of_ble_eq_true rfl⟩ ⟨Nat.zero_le _, Nat.zero_le _⟩ [.long (bL ((g) 3))] ⟨fun _ _ _ _ q => q, fun U _ _ => ⟨rfl, trivial⟩⟩ rfl hl.1 rfl (Nat.le_of_ble_eq_true rfl) d_ke_keysDown_16 ?_
  refine xi_add hx hb d_ke_keysDown_19 ?_
  refine lv_istore_n hx hb d_ke_keysDown_20 rfl hl (by decide) rfl (fun ls hl => ?_)
  have hl : lv_has ls 3 [(1, .int (iI (((((0) + (((cnt ((g) 0) 64 : Nat) : Int))) + (((cnt ((g) 1) 64 : Nat) : Int))) + (((cnt ((g) 2) 64 : Nat) : Int))) + (((cnt ((g) 3) 64 : Nat) : Int))))), (2, .int (iI (3))), (0, .ref (k0))] := hl
  refine lv_iinc (k := 1) (v := iI (4)) hx hb d_ke_keysDown_21 hl rfl (by decide +kernel) (by decide) rfl (fun ls hl => ?_)
  have hl : lv_has ls 3 [(2, .int (iI (4))), (1, .int (iI (((((0) + (((cnt ((g) 0) 64 : Nat) : Int))) + (((cnt ((g) 1) 64 : Nat) : Int))) + (((cnt ((g) 2) 64 : Nat) : Int))) + (((cnt ((g) 3) 64 : Nat) : Int))))), (0, .ref (k0))] := hl
  refine lv_goto (tgt := 4) hx hb d_ke_keysDown_24 (by decide) ?_
  refine lv_iload_n hx hb d_ke_keysDown_4 rfl (lv_at hl 0 rfl) ?_
  refine lv_iconst (v := iI (5)) hx hb d_ke_keysDown_5 rfl ?_
  refine xi_icmp_ge (tgt := 27) hx hb ⟨by omega, by omega⟩ ⟨by omega, by omega⟩ d_ke_keysDown_6 (by decide) (fun u_5 => ?_) (fun u_5 => ?_)
  · exact absurd u_5 (by decide)
  refine lv_iload_n hx hb d_ke_keysDown_9 rfl (lv_at hl 1 rfl) ?_
  refine lv_aload_n hx hb d_ke_keysDown_10 rfl (lv_at hl 2 rfl) ?_
  refine va_get (D := (dC, dI)) (ci := 1) (v := .ref (k1)) (C := "OrganConsole$Keywork") (T := T_ke) (N := 6) hx hb htb in_ke hown hK hP 0 rfl rfl 0 (by decide) (htb _ tw_65) (fun _ h9 => h9) rfl d_ke_keysDown_11 ?_
  refine lv_iload_n hx hb d_ke_keysDown_14 rfl (lv_at hl 0 rfl) ?_
  refine xa_bald hx hb hK hP 1 1 rfl rfl 4 (by rfl) (by omega) (by decide) d_ke_keysDown_15 ?_
  refine pcS hx hb hml hown htb (c_jl_bitCount' l ((g) 4)) tw_642 tw_506 tw_47 tw_507 1 (by decide +kernel) rfl rfl ⟨Nat.le_of_ble_eq_true rfl, Nat.le_of_ble_eq_true rfl⟩ ⟨Nat.zero_le _, Nat.zero_le _⟩ [.long (bL ((g) 4))] ⟨fun _ _ _ _ q => q, fun U _ _ => ⟨rfl, trivial⟩⟩ rfl hl.1 rfl (Nat.le_of_ble_eq_true rfl) d_ke_keysDown_16 ?_
  refine xi_add hx hb d_ke_keysDown_19 ?_
  refine lv_istore_n hx hb d_ke_keysDown_20 rfl hl (by decide) rfl (fun ls hl => ?_)
  have hl : lv_has ls 3 [(1, .int (iI ((((((0) + (((cnt ((g) 0) 64 : Nat) : Int))) + (((cnt ((g) 1) 64 : Nat) : Int))) + (((cnt ((g) 2) 64 : Nat) : Int))) + (((cnt ((g) 3) 64 : Nat) : Int))) + (((cnt ((g) 4) 64 : Nat) : Int))))), (2, .int (iI (4))), (0, .ref (k0))] := hl
  refine lv_iinc (k := 1) (v := iI (5)) hx hb d_ke_keysDown_21 hl rfl (by decide +kernel) (by decide) rfl (fun ls hl => ?_)
  have hl : lv_has ls 3 [(2, .int (iI (5))), (1, .int (iI ((((((0) + (((cnt ((g) 0) 64 : Nat) : Int))) + (((cnt ((g) 1) 64 : Nat) : Int))) + (((cnt ((g) 2) 64 : Nat) : Int))) + (((cnt ((g) 3) 64 : Nat) : Int))) + (((cnt ((g) 4) 64 : Nat) : Int))))), (0, .ref (k0))] := hl
  refine lv_goto (tgt := 4) hx hb d_ke_keysDown_24 (by decide) ?_
  refine lv_iload_n hx hb d_ke_keysDown_4 rfl (lv_at hl 0 rfl) ?_
  refine lv_iconst (v := iI (5)) hx hb d_ke_keysDown_5 rfl ?_
  refine xi_icmp_ge (tgt := 27) hx hb ⟨by omega, by omega⟩ ⟨by omega, by omega⟩ d_ke_keysDown_6 (by decide) (fun u_6 => ?_) (fun u_6 => ?_)
  rotate_left
  · exact absurd u_6 (by decide)
  refine lv_iload_n hx hb d_ke_keysDown_27 rfl (lv_at hl 1 rfl) ?_
  have q_7 : iI ((((((0) + (((cnt ((g) 0) 64 : Nat) : Int))) + (((cnt ((g) 1) 64 : Nat) : Int))) + (((cnt ((g) 2) 64 : Nat) : Int))) + (((cnt ((g) 3) 64 : Nat) : Int))) + (((cnt ((g) 4) 64 : Nat) : Int))) = iI (((kd g : Nat) : Int)) := by
    refine congrArg iI ?_
    unfold kd
    omega
  rw [q_7]
  exact W.iret (v := iI (((kd g : Nat) : Int))) hx hb hr (fun t ht hW => ⟨rfl, ht⟩) t_nil d_ke_keysDown_28

set_option maxHeartbeats 200000 in
set_option maxRecDepth 100000 in
theorem c_ke_notesReached (l : Launch) (dC : Nat → ClassId) (dI : Nat → Nat → Nat) (cI cL cZ : ClassId) (k0 k1 k2 k3 k4 : Nat) (g : Nat → Nat → Bool) (fr tt sh : Nat → Int) (nc : Nat) (tb : Nat → Bool) (hok : kwOk g fr tt sh nc) : Met l y_ke_notesReached (Cond.code y_ke_notesReached prog_3_method_4_code 3 (some .int) :: TB) ({ frames := 3, cells := 0, slots := 0, locals := 74 }) (va_Pc [.ref (k0)] (PN dC dI [(k0, .inr (1, [.ref (k1), .ref (k2), .ref (k3), .ref (k4), .int (iI (((nc : Nat) : Int))), .long (bL (tb))])), (k1, .inl (cL, 5, .inr (.inl (aB (g))))), (k2, .inl (cI, 16, .inl (aI (fr)))), (k3, .inl (cI, 16, .inl (aI (tt)))), (k4, .inl (cI, 16, .inl (aI (sh))))] [(cI, .int), (cL, .long), (cZ, .boolean)])) (k2_QcV (.int (iI (((nr g fr tt sh tb nc : Nat) : Int))))) 0 0 (fun _ => False) := by
  refine Met.ofW (cc := prog_3_method_4_code) (maxL := 3) (ret := (some .int)) (by decide) rfl ?_
  intro p e s m args below meth c s₁ B hml hv
  obtain ⟨ha, hP, hK, hN⟩ := hv
  have hx := B.exec
  have hb := B.bytes
  have hr := B.returns
  have htb : ∀ w ∈ TB, w.before args s = true := fun w h => atoms_spec (ws := Cond.code y_ke_notesReached prog_3_method_4_code 3 (some .int) :: TB) B.pre w (List.mem_cons_of_mem _ h)
  have hown : s.vm.findClass "OrganConsole$Keywork" = some m.cls := findClass_of_methodNamed B.named
  have hlocks := B.notSynchronized
  have hl := lv_entry ([.ref (k0)]) (n := 3) (Nat.le_of_ble_eq_true rfl)
  refine W.eq (g2 := F0 m 0 _ []) (by rw [ha]; exact lg_entry_eq m ([.ref (k0)]) 3) ?_
  generalize (lg_sl ([.ref (k0)]) ++ List.replicate (3 - (lg_sl ([.ref (k0)])).length) Slot.unset).toArray = ls at hl ⊢
  have hl : lv_has ls 3 [(0, .ref (k0))] := hl
  refine lv_iconst (v := iI (0)) hx hb d_ke_notesReached_0 rfl ?_
  refine lv_istore_n hx hb d_ke_notesReached_1 rfl hl (by decide) rfl (fun ls hl => ?_)
  have hl : lv_has ls 3 [(1, .int (iI (0))), (0, .ref (k0))] := hl
  refine lv_iconst (v := iI (0)) hx hb d_ke_notesReached_2 rfl ?_
  refine lv_istore_n hx hb d_ke_notesReached_3 rfl hl (by decide) rfl (fun ls hl => ?_)
  have hl : lv_has ls 3 [(2, .int (iI (0))), (1, .int (iI (0))), (0, .ref (k0))] := hl
  refine lv_iload_n hx hb d_ke_notesReached_4 rfl (lv_at hl 0 rfl) ?_
  refine lv_iconst (v := iI (5)) hx hb d_ke_notesReached_5 rfl ?_
  refine xi_icmp_ge (tgt := 26) hx hb ⟨by omega, by omega⟩ ⟨by omega, by omega⟩ d_ke_notesReached_6 (by decide) (fun u_1 => ?_) (fun u_1 => ?_)
  · exact absurd u_1 (by decide)
  refine lv_iload_n hx hb d_ke_notesReached_9 rfl (lv_at hl 1 rfl) ?_
  refine lv_aload_n hx hb d_ke_notesReached_10 rfl (lv_at hl 2 rfl) ?_
  refine lv_iload_n hx hb d_ke_notesReached_11 rfl (lv_at hl 0 rfl) ?_
  refine lv_iconst (v := iI (0)) hx hb d_ke_notesReached_12 rfl ?_
  refine lv_bipush (v := iI (96)) hx hb d_ke_notesReached_13 (by decide +kernel) ?_
  refine pcV hx hb hml hown htb (c_ke_reachedBetween l dC dI cI cL cZ k0 k1 k2 k3 k4 g fr tt sh nc tb hok (0) (0) (96) (by omega) (by omega) (by omega) (by omega) (by omega) (by omega)) tw_732 tw_621 tw_622 tw_35 tw_623 3 (by decide +kernel) rfl rfl ⟨Nat.le_of_ble_eq_true rfl, Nat.le_of_ble_eq_true rfl⟩ ⟨Nat.zero_le _, Nat.zero_le _⟩ [.int (iI (0)), .int (iI (0)), .int (iI (96))] (PN_V (q0 := 0) (ci := 1) hP hP hK hN rfl rfl) rfl hl.1 rfl (Nat.le_of_ble_eq_true rfl) d_ke_notesReached_15 ?_
  refine xi_add hx hb d_ke_notesReached_18 ?_
  refine lv_istore_n hx hb d_ke_notesReached_19 rfl hl (by decide) rfl (fun ls hl => ?_)
  have hl : lv_has ls 3 [(1, .int (iI ((0) + (((rb g fr tt sh tb nc (0) (0) (96) : Nat) : Int))))), (2, .int (iI (0))), (0, .ref (k0))] := hl
  refine lv_iinc (k := 1) (v := iI (1)) hx hb d_ke_notesReached_20 hl rfl (by decide +kernel) (by decide) rfl (fun ls hl => ?_)
  have hl : lv_has ls 3 [(2, .int (iI (1))), (1, .int (iI ((0) + (((rb g fr tt sh tb nc (0) (0) (96) : Nat) : Int))))), (0, .ref (k0))] := hl
  refine lv_goto (tgt := 4) hx hb d_ke_notesReached_23 (by decide) ?_
  refine lv_iload_n hx hb d_ke_notesReached_4 rfl (lv_at hl 0 rfl) ?_
  refine lv_iconst (v := iI (5)) hx hb d_ke_notesReached_5 rfl ?_
  refine xi_icmp_ge (tgt := 26) hx hb ⟨by omega, by omega⟩ ⟨by omega, by omega⟩ d_ke_notesReached_6 (by decide) (fun u_2 => ?_) (fun u_2 => ?_)
  · exact absurd u_2 (by decide)
  refine lv_iload_n hx hb d_ke_notesReached_9 rfl (lv_at hl 1 rfl) ?_
  refine lv_aload_n hx hb d_ke_notesReached_10 rfl (lv_at hl 2 rfl) ?_
  refine lv_iload_n hx hb d_ke_notesReached_11 rfl (lv_at hl 0 rfl) ?_
  refine lv_iconst (v := iI (0)) hx hb d_ke_notesReached_12 rfl ?_
  refine lv_bipush (v := iI (96)) hx hb d_ke_notesReached_13 (by decide +kernel) ?_
  refine pcV hx hb hml hown htb (c_ke_reachedBetween l dC dI cI cL cZ k0 k1 k2 k3 k4 g fr tt sh nc tb hok (1) (0) (96) (by omega) (by omega) (by omega) (by omega) (by omega) (by omega)) tw_732 tw_621 tw_622 tw_35 tw_623 3 (by decide +kernel) rfl rfl ⟨Nat.le_of_ble_eq_true rfl, Nat.le_of_ble_eq_true rfl⟩ ⟨Nat.zero_le _, Nat.zero_le _⟩ [.int (iI (1)), .int (iI (0)), .int (iI (96))] (PN_V (q0 := 0) (ci := 1) hP hP hK hN rfl rfl) rfl hl.1 rfl (Nat.le_of_ble_eq_true rfl) d_ke_notesReached_15 ?_
  refine xi_add hx hb d_ke_notesReached_18 ?_
  refine lv_istore_n hx hb d_ke_notesReached_19 rfl hl (by decide) rfl (fun ls hl => ?_)
  have hl : lv_has ls 3 [(1, .int (iI (((0) + (((rb g fr tt sh tb nc (0) (0) (96) : Nat) : Int))) + (((rb g fr tt sh tb nc (1) (0) (96) : Nat) : Int))))), (2, .int (iI (1))), (0, .ref (k0))] := hl
  refine lv_iinc (k := 1) (v := iI (2)) hx hb d_ke_notesReached_20 hl rfl (by decide +kernel) (by decide) rfl (fun ls hl => ?_)
  have hl : lv_has ls 3 [(2, .int (iI (2))), (1, .int (iI (((0) + (((rb g fr tt sh tb nc (0) (0) (96) : Nat) : Int))) + (((rb g fr tt sh tb nc (1) (0) (96) : Nat) : Int))))), (0, .ref (k0))] := hl
  refine lv_goto (tgt := 4) hx hb d_ke_notesReached_23 (by decide) ?_
  refine lv_iload_n hx hb d_ke_notesReached_4 rfl (lv_at hl 0 rfl) ?_
  refine lv_iconst (v := iI (5)) hx hb d_ke_notesReached_5 rfl ?_
  refine xi_icmp_ge (tgt := 26) hx hb ⟨by omega, by omega⟩ ⟨by omega, by omega⟩ d_ke_notesReached_6 (by decide) (fun u_3 => ?_) (fun u_3 => ?_)
  · exact absurd u_3 (by decide)
  refine lv_iload_n hx hb d_ke_notesReached_9 rfl (lv_at hl 1 rfl) ?_
  refine lv_aload_n hx hb d_ke_notesReached_10 rfl (lv_at hl 2 rfl) ?_
  refine lv_iload_n hx hb d_ke_notesReached_11 rfl (lv_at hl 0 rfl) ?_
  refine lv_iconst (v := iI (0)) hx hb d_ke_notesReached_12 rfl ?_
  refine lv_bipush (v := iI (96)) hx hb d_ke_notesReached_13 (by decide +kernel) ?_
  refine pcV hx hb hml hown htb (c_ke_reachedBetween l dC dI cI cL cZ k0 k1 k2 k3 k4 g fr tt sh nc tb hok (2) (0) (96) (by omega) (by omega) (by omega) (by omega) (by omega) (by omega)) tw_732 tw_621 tw_622 tw_35 tw_623 3 (by decide +kernel) rfl rfl ⟨Nat.le_of_ble_eq_true rfl, Nat.le_of_ble_eq_true rfl⟩ ⟨Nat.zero_le _, Nat.zero_le _⟩ [.int (iI (2)), .int (iI (0)), .int (iI (96))] (PN_V (q0 := 0) (ci := 1) hP hP hK hN rfl rfl) rfl hl.1 rfl (Nat.le_of_ble_eq_true rfl) d_ke_notesReached_15 ?_
  refine xi_add hx hb d_ke_notesReached_18 ?_
  refine lv_istore_n hx hb d_ke_notesReached_19 rfl hl (by decide) rfl (fun ls hl => ?_)
  have hl : lv_has ls 3 [(1, .int (iI ((((0) + (((rb g fr tt sh tb nc (0) (0) (96) : Nat) : Int))) + (((rb g fr tt sh tb nc (1) (0) (96) : Nat) : Int))) + (((rb g fr tt sh tb nc (2) (0) (96) : Nat) : Int))))), (2, .int (iI (2))), (0, .ref (k0))] := hl
  refine lv_iinc (k := 1) (v := iI (3)) hx hb d_ke_notesReached_20 hl rfl (by decide +kernel) (by decide) rfl (fun ls hl => ?_)
  have hl : lv_has ls 3 [(2, .int (iI (3))), (1, .int (iI ((((0) + (((rb g fr tt sh tb nc (0) (0) (96) : Nat) : Int))) + (((rb g fr tt sh tb nc (1) (0) (96) : Nat) : Int))) + (((rb g fr tt sh tb nc (2) (0) (96) : Nat) : Int))))), (0, .ref (k0))] := hl
  refine lv_goto (tgt := 4) hx hb d_ke_notesReached_23 (by decide) ?_
  refine lv_iload_n hx hb d_ke_notesReached_4 rfl (lv_at hl 0 rfl) ?_
  refine lv_iconst (v := iI (5)) hx hb d_ke_notesReached_5 rfl ?_
  refine xi_icmp_ge (tgt := 26) hx hb ⟨by omega, by omega⟩ ⟨by omega, by omega⟩ d_ke_notesReached_6 (by decide) (fun u_4 => ?_) (fun u_4 => ?_)
  · exact absurd u_4 (by decide)
  refine lv_iload_n hx hb d_ke_notesReached_9 rfl (lv_at hl 1 rfl) ?_
  refine lv_aload_n hx hb d_ke_notesReached_10 rfl (lv_at hl 2 rfl) ?_
  refine lv_iload_n hx hb d_ke_notesReached_11 rfl (lv_at hl 0 rfl) ?_
  refine lv_iconst (v := iI (0)) hx hb d_ke_notesReached_12 rfl ?_
  refine lv_bipush (v := iI (96)) hx hb d_ke_notesReached_13 (by decide +kernel) ?_
  refine pcV hx hb hml hown htb (c_ke_reachedBetween l dC dI cI cL cZ k0 k1 k2 k3 k4 g fr tt sh nc tb hok (3) (0) (96) (by omega) (by omega) (by omega) (by omega) (by omega) (by omega)) tw_732 tw_621 tw_622 tw_35 tw_623 3 (by decide +kernel) rfl rfl ⟨Nat.le_of_ble_eq_true rfl, Nat.le_of_ble_eq_true rfl⟩ ⟨Nat.zero_le _, Nat.zero_le _⟩ [.int (iI (3)), .int (iI (0)), .int (iI (96))] (PN_V (q0 := 0) (ci := 1) hP hP hK hN rfl rfl) rfl hl.1 rfl (Nat.le_of_ble_eq_true rfl) d_ke_notesReached_15 ?_
  refine xi_add hx hb d_ke_notesReached_18 ?_
  refine lv_istore_n hx hb d_ke_notesReached_19 rfl hl (by decide) rfl (fun ls hl => ?_)
  have hl : lv_has ls 3 [(1, .int (iI (((((0) + (((rb g fr tt sh tb nc (0) (0) (96) : Nat) : Int))) + (((rb g fr tt sh tb nc (1) (0) (96) : Nat) : Int))) + (((rb g fr tt sh tb nc (2) (0) (96) : Nat) : Int))) + (((rb g fr tt sh tb nc (3) (0) (96) : Nat) : Int))))), (2, .int (iI (3))), (0, .ref (k0))] := hl
  refine lv_iinc (k := 1) (v := iI (4)) hx hb d_ke_notesReached_20 hl rfl (by decide +kernel) (by decide) rfl (fun ls hl => ?_)
  have hl : lv_has ls 3 [(2, .int (iI (4))), (1, .int (iI (((((0) + (((rb g fr tt sh tb nc (0) (0) (96) : Nat) : Int))) + (((rb g fr tt sh tb nc (1) (0) (96) : Nat) : Int))) + (((rb g fr tt sh tb nc (2) (0) (96) : Nat) : Int))) + (((rb g fr tt sh tb nc (3) (0) (96) : Nat) : Int))))), (0, .ref (k0))] := hl
  refine lv_goto (tgt := 4) hx hb d_ke_notesReached_23 (by decide) ?_
  refine lv_iload_n hx hb d_ke_notesReached_4 rfl (lv_at hl 0 rfl) ?_
  refine lv_iconst (v := iI (5)) hx hb d_ke_notesReached_5 rfl ?_
  refine xi_icmp_ge (tgt := 26) hx hb ⟨by omega, by omega⟩ ⟨by omega, by omega⟩ d_ke_notesReached_6 (by decide) (fun u_5 => ?_) (fun u_5 => ?_)
  · exact absurd u_5 (by decide)
  refine lv_iload_n hx hb d_ke_notesReached_9 rfl (lv_at hl 1 rfl) ?_
  refine lv_aload_n hx hb d_ke_notesReached_10 rfl (lv_at hl 2 rfl) ?_
  refine lv_iload_n hx hb d_ke_notesReached_11 rfl (lv_at hl 0 rfl) ?_
  refine lv_iconst (v := iI (0)) hx hb d_ke_notesReached_12 rfl ?_
  refine lv_bipush (v := iI (96)) hx hb d_ke_notesReached_13 (by decide +kernel) ?_
  refine pcV hx hb hml hown htb (c_ke_reachedBetween l dC dI cI cL cZ k0 k1 k2 k3 k4 g fr tt sh nc tb hok (4) (0) (96) (by omega) (by omega) (by omega) (by omega) (by omega) (by omega)) tw_732 tw_621 tw_622 tw_35 tw_623 3 (by decide +kernel) rfl rfl ⟨Nat.le_of_ble_eq_true rfl, Nat.le_of_ble_eq_true rfl⟩ ⟨Nat.zero_le _, Nat.zero_le _⟩ [.int (iI (4)), .int (iI (0)), .int (iI (96))] (PN_V (q0 := 0) (ci := 1) hP hP hK hN rfl rfl) rfl hl.1 rfl (Nat.le_of_ble_eq_true rfl) d_ke_notesReached_15 ?_
  refine xi_add hx hb d_ke_notesReached_18 ?_
  refine lv_istore_n hx hb d_ke_notesReached_19 rfl hl (by decide) rfl (fun ls hl => ?_)
  have hl : lv_has ls 3 [(1, .int (iI ((((((0) + (((rb g fr tt sh tb nc (0) (0) (96) : Nat) : Int))) + (((rb g fr tt sh tb nc (1) (0) (96) : Nat) : Int))) + (((rb g fr tt sh tb nc (2) (0) (96) : Nat) : Int))) + (((rb g fr tt sh tb nc (3) (0) (96) : Nat) : Int))) + (((rb g fr tt sh tb nc (4) (0) (96) : Nat) : Int))))), (2, .int (iI (4))), (0, .ref (k0))] := hl
  refine lv_iinc (k := 1) (v := iI (5)) hx hb d_ke_notesReached_20 hl rfl (by decide +kernel) (by decide) rfl (fun ls hl => ?_)
  have hl : lv_has ls 3 [(2, .int (iI (5))), (1, .int (iI ((((((0) + (((rb g fr tt sh tb nc (0) (0) (96) : Nat) : Int))) + (((rb g fr tt sh tb nc (1) (0) (96) : Nat) : Int))) + (((rb g fr tt sh tb nc (2) (0) (96) : Nat) : Int))) + (((rb g fr tt sh tb nc (3) (0) (96) : Nat) : Int))) + (((rb g fr tt sh tb nc (4) (0) (96) : Nat) : Int))))), (0, .ref (k0))] := hl
  refine lv_goto (tgt := 4) hx hb d_ke_notesReached_23 (by decide) ?_
  refine lv_iload_n hx hb d_ke_notesReached_4 rfl (lv_at hl 0 rfl) ?_
  refine lv_iconst (v := iI (5)) hx hb d_ke_notesReached_5 rfl ?_
  refine xi_icmp_ge (tgt := 26) hx hb ⟨by omega, by omega⟩ ⟨by omega, by omega⟩ d_ke_notesReached_6 (by decide) (fun u_6 => ?_) (fun u_6 => ?_)
  rotate_left
  · exact absurd u_6 (by decide)
  refine lv_iload_n hx hb d_ke_notesReached_26 rfl (lv_at hl 1 rfl) ?_
  have q_7 : iI ((((((0) + (((rb g fr tt sh tb nc (0) (0) (96) : Nat) : Int))) + (((rb g fr tt sh tb nc (1) (0) (96) : Nat) : Int))) + (((rb g fr tt sh tb nc (2) (0) (96) : Nat) : Int))) + (((rb g fr tt sh tb nc (3) (0) (96) : Nat) : Int))) + (((rb g fr tt sh tb nc (4) (0) (96) : Nat) : Int))) = iI (((nr g fr tt sh tb nc : Nat) : Int)) := by
    refine congrArg iI ?_
    unfold nr
    omega
  rw [q_7]
  exact W.iret (v := iI (((nr g fr tt sh tb nc : Nat) : Int))) hx hb hr (fun t ht hW => ⟨rfl, ht⟩) t_nil d_ke_notesReached_27
