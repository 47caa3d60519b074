/-! the reference: recall, store, speaks, reached, open pipes, versions -/
theorem plc_in {lv z q : Int} (h1 : 0 ≤ lv) (h2 : lv ≤ 7) (h3 : 0 ≤ q) (h4 : z = 0 ∧ q < 16 ∨ z = 1 ∧ q < 25 ∨ z = 2 ∧ q < 100) : 0 ≤ plc lv z q ∧ plc lv z q ≤ 20496 := by
  unfold plc
  rcases h4 with ⟨h, h5⟩ | ⟨h, h5⟩ | ⟨h, h5⟩ <;> subst h <;> simp <;> omega
def tgf (tg : Nat → Bool) (sc v : Nat → Bool) (k : Nat) : Nat → Bool := fun j => if j < k then (if sc j = true then v j else tg j) else tg j
theorem tgf_0 (tg sc v : Nat → Bool) : tg = tgf tg sc v 0 := by funext j; unfold tgf; simp
theorem tgf_y {tg sc v : Nat → Bool} {k : Nat} (h : sc k = true) : va_up (tgf tg sc v k) k (v k) = tgf tg sc v (k + 1) := by
  funext j
  unfold tgf va_up
  by_cases e : j = k
  · subst e; simp [h]
  · by_cases e2 : j < k
    · simp [e, e2, show j < k + 1 by omega]
    · simp [e, e2, show ¬ j < k + 1 by omega]
theorem tgf_n {tg sc v : Nat → Bool} {k : Nat} (h : sc k = false) : tgf tg sc v k = tgf tg sc v (k + 1) := by
  funext j
  unfold tgf
  by_cases e : j = k
  · subst e; simp [h]
  · by_cases e2 : j < k
    · simp [e2, show j < k + 1 by omega]
    · simp [e2, show ¬ j < k + 1 by omega]
/-- k places from at on hold f -/
def stf (me : Nat → Bool) (at_ : Nat) (f : Nat → Bool) (k : Nat) : Nat → Bool := fun j => if at_ ≤ j ∧ j < at_ + k then f (j - at_) else me j
theorem stf_0 (me : Nat → Bool) (at_ : Nat) (f : Nat → Bool) : me = stf me at_ f 0 := by funext j; unfold stf; rw [if_neg (by omega)]
theorem stf_s {me : Nat → Bool} {at_ : Nat} {f : Nat → Bool} {k : Nat} {b : Bool} (h : f k = b) : va_up (stf me at_ f k) (at_ + k) b = stf me at_ f (k + 1) := by
  funext j
  unfold stf va_up
  by_cases e : j = at_ + k
  · subst e; rw [if_pos rfl, if_pos (by omega), show at_ + k - at_ = k by omega, h]
  · rw [if_neg e]
    show (if at_ ≤ j ∧ j < at_ + k then f (j - at_) else me j) = (if at_ ≤ j ∧ j < at_ + (k + 1) then f (j - at_) else me j)
    by_cases e2 : at_ ≤ j ∧ j < at_ + k
    · rw [if_pos e2, if_pos (by omega)]
    · rw [if_neg e2, if_neg (by omega)]
theorem up_at {α : Type} (f : Nat → α) (k : Nat) (v : α) : va_up f k v k = v := by unfold va_up; simp
theorem mus_1 {me : Nat → Bool} {s k : Nat} (h : mus me s k = true) : iI 1 = bI (mus me s (k + 1)) := bo_1 (by show (mus me s k || _) = true; rw [h]; rfl)
theorem mus_2 {me : Nat → Bool} {s k : Nat} (h : me (20544 + 48 * (k + 1) + s) = true) : iI 1 = bI (mus me s (k + 1)) := bo_1 (by show (mus me s k || _) = true; rw [h]; simp)
theorem mus_3 {me : Nat → Bool} {s k : Nat} (h : mus me s k = false) (h2 : me (20544 + 48 * (k + 1) + s) = false) : iI 0 = bI (mus me s (k + 1)) := bo_0 (by show (mus me s k || _) = false; rw [h, h2]; rfl)
section MRE
variable {dn : Nat → Bool} {fr tt sh : Nat → Int} {tb : Nat → Bool} {d z : Int} {c : Nat}
theorem mre_1 (h : mre dn fr tt sh tb d z c = true) : iI 1 = bI (mre dn fr tt sh tb d z (c + 1)) := bo_1 (by show (mre dn fr tt sh tb d z c || _) = true; rw [h]; rfl)
theorem mre_2 (h1 : tb c = true) (h2 : tt c = d) (h3 : mdn dn (fr c) (z - sh c) = true) : iI 1 = bI (mre dn fr tt sh tb d z (c + 1)) := bo_1 (by show (mre dn fr tt sh tb d z c || (tb c && decide (tt c = d) && mdn dn (fr c) (z - sh c))) = true; rw [h1, decide_eq_true h2, h3]; simp)
theorem mre_3 (h : mre dn fr tt sh tb d z c = false) (h1 : tb c = false) : iI 0 = bI (mre dn fr tt sh tb d z (c + 1)) := bo_0 (by show (mre dn fr tt sh tb d z c || (tb c && decide (tt c = d) && mdn dn (fr c) (z - sh c))) = false; rw [h, h1]; rfl)
theorem mre_4 (h : mre dn fr tt sh tb d z c = false) (h1 : ¬ tt c = d) : iI 0 = bI (mre dn fr tt sh tb d z (c + 1)) := bo_0 (by show (mre dn fr tt sh tb d z c || (tb c && decide (tt c = d) && mdn dn (fr c) (z - sh c))) = false; rw [h, decide_eq_false h1]; simp)
theorem mre_5 (h : mre dn fr tt sh tb d z c = false) (h1 : mdn dn (fr c) (z - sh c) = false) : iI 0 = bI (mre dn fr tt sh tb d z (c + 1)) := bo_0 (by show (mre dn fr tt sh tb d z c || (tb c && decide (tt c = d) && mdn dn (fr c) (z - sh c))) = false; rw [h, h1]; simp)
end MRE
def mwh (ve : Nat → Int) (sp : Nat → Bool) (c : Nat) : Nat → Bool
  | 0 => decide (0 < ve (9 * c))
  | k + 1 => mwh ve sp c k && decide (ve (9 * c + k) = ve (9 * c)) && !sp (9 * c + k)
section MWH
variable {ve : Nat → Int} {sp : Nat → Bool} {c k : Nat}
theorem mwh_1 (h : mwh ve sp c k = true) (h2 : ve (9 * c + k) = ve (9 * c)) (h3 : sp (9 * c + k) = false) : iI 1 = bI (mwh ve sp c (k + 1)) := bo_1 (by show (mwh ve sp c k && decide (ve (9 * c + k) = ve (9 * c)) && !sp (9 * c + k)) = true; rw [h, decide_eq_true h2, h3]; rfl)
theorem mwh_2 (h : mwh ve sp c k = false) : iI 0 = bI (mwh ve sp c (k + 1)) := bo_0 (by show (mwh ve sp c k && decide (ve (9 * c + k) = ve (9 * c)) && !sp (9 * c + k)) = false; rw [h]; rfl)
theorem mwh_3 (h : ¬ ve (9 * c + k) = ve (9 * c)) : iI 0 = bI (mwh ve sp c (k + 1)) := bo_0 (by show (mwh ve sp c k && decide (ve (9 * c + k) = ve (9 * c)) && !sp (9 * c + k)) = false; rw [decide_eq_false h]; simp)
theorem mwh_4 (h : sp (9 * c + k) = true) : iI 0 = bI (mwh ve sp c (k + 1)) := bo_0 (by show (mwh ve sp c k && decide (ve (9 * c + k) = ve (9 * c)) && !sp (9 * c + k)) = false; rw [h]; simp)
end MWH
def mio (kn me : Nat → Bool) (fo : Bool) (pe : Int) (fd fs fl fh : Nat → Int) (dn : Nat → Bool) (fr tt sh : Nat → Int) (tb : Nat → Bool) (nc s : Nat) (z : Int) : Bool := msp kn me fo pe s && decide (fl s ≤ z) && decide (z ≤ fh s) && mre dn fr tt sh tb (fd s) (z - fs s) nc
set_option maxHeartbeats 200000 in
set_option maxRecDepth 100000 in
theorem c_mo_speaks (l : Launch) (dC : Nat → ClassId) (dI : Nat → Nat → Nat) (cI cL cZ : ClassId) (b0 b1 b2 b3 b4 b5 b6 b7 b8 b9 b10 b11 b12 b13 b14 b15 b16 b17 b18 b19 : Nat) (th lv pe cu fm nf : Int) (n nc : Nat) (fd fs fl fh ft fc fr tt sh cf ve li : Nat → Int) (kn tg tb dn me cp sp : Nat → Bool) (fo lk : Bool) (hn : n ≤ 48) (hnc : nc ≤ 16) (hft : ∀ s, 0 ≤ ft s ∧ ft s ≤ 3) (hfc : ∀ s, 0 ≤ fc s ∧ fc s ≤ 2) (hsb : ∀ s, 0 ≤ fd s ∧ fd s < 5 ∧ -24 ≤ fs s ∧ fs s ≤ 24 ∧ 0 ≤ fl s ∧ fl s ≤ 96 ∧ 0 ≤ fh s ∧ fh s ≤ 96) (hcb : ∀ c, 0 ≤ fr c ∧ fr c < 5 ∧ 0 ≤ tt c ∧ tt c < 5 ∧ -24 ≤ sh c ∧ sh c ≤ 24) (hve : ∀ p, 0 ≤ ve p ∧ ve p ≤ 100000) (hnf : nf = -1 ∨ nf = 0 ∨ nf = 1) (hlv : 0 ≤ lv ∧ lv ≤ 7) (hcu : -1 ≤ cu ∧ cu < fm) (hpe : 0 ≤ pe ∧ pe ≤ 15) (hfm : 0 ≤ fm ∧ fm ≤ 100) (hcf : ∀ c, 0 ≤ cf c ∧ cf c ≤ 100) (hli : ∀ j, 0 ≤ li j ∧ li j ≤ 2) (k9 : Nat) (z : Int) (hz : z = (k9 : Int)) (hk9 : k9 < 48) : Met l y_mo_speaks (Cond.code y_mo_speaks prog_8_method_27_code 4 (some .boolean) :: TB) ({ frames := 0, cells := 0, slots := 0, locals := 0 }) (va_Pc [.ref (b0), .int (iI (z))] (PW dC dI [(b0, .inr (6, [.int (iI (th)), .int (iI (((n : Nat) : Int))), .ref (b1), .ref (b2), .ref (b3), .ref (b4), .ref (b5), .ref (b6), .ref (b7), .ref (b8), .int (iI (((nc : Nat) : Int))), .ref (b9), .ref (b10), .ref (b11), .ref (b12), .ref (b13), .int (bI (fo)), .int (bI (lk)), .int (iI (lv)), .int (iI (pe)), .int (iI (cu)), .ref (b14), .int (iI (fm)), .ref (b15), .ref (b16), .ref (b17), .ref (b18), .int (iI (nf)), .ref (b19)])), (b1, .inl (cI, 48, .inl (aI (fd)))), (b2, .inl (cI, 48, .inl (aI (fs)))), (b3, .inl (cI, 48, .inl (aI (fl)))), (b4, .inl (cI, 48, .inl (aI (fh)))), (b5, .inl (cZ, 48, .inl (aZ (kn)))), (b6, .inl (cI, 48, .inl (aI (ft)))), (b7, .inl (cZ, 48, .inl (aZ (tg)))), (b8, .inl (cI, 48, .inl (aI (fc)))), (b9, .inl (cI, 16, .inl (aI (fr)))), (b10, .inl (cI, 16, .inl (aI (tt)))), (b11, .inl (cI, 16, .inl (aI (sh)))), (b12, .inl (cZ, 16, .inl (aZ (tb)))), (b13, .inl (cZ, 305, .inl (aZ (dn)))), (b14, .inl (cZ, 21312, .inl (aZ (me)))), (b15, .inl (cZ, 42624, .inl (aZ (cp)))), (b16, .inl (cI, 2, .inl (aI (cf)))), (b17, .inl (cI, 18, .inl (aI (ve)))), (b18, .inl (cZ, 18, .inl (aZ (sp)))), (b19, .inl (cI, 40, .inl (aI (li))))] [(cI, .int), (cL, .long), (cZ, .boolean)])) (k2_QcV (.int (bI (msp kn me fo pe k9)))) 0 0 (fun _ => False) := by
  refine Met.ofW (cc := prog_8_method_27_code) (maxL := 4) (ret := (some .boolean)) (by decide) rfl ?_
  intro p e s m args below meth c s₁ B hml hv
  obtain ⟨ha, hP, hK⟩ := hv
  have hx := B.exec
  have hb := B.bytes
  have hr := B.returns
  have htb : ∀ w ∈ TB, w.before args s = true := fun w h => atoms_spec (ws := Cond.code y_mo_speaks prog_8_method_27_code 4 (some .boolean) :: TB) B.pre w (List.mem_cons_of_mem _ h)
  have hown : s.vm.findClass "OrganConsoleModel" = some m.cls := findClass_of_methodNamed B.named
  have hlocks := B.notSynchronized
  have hl := lv_entry ([.ref (b0), .int (iI (z))]) (n := 4) (Nat.le_of_ble_eq_true rfl)
  refine W.eq (g2 := F0 m 0 _ []) (by rw [ha]; exact lg_entry_eq m ([.ref (b0), .int (iI (z))]) 4) ?_
  generalize (lg_sl ([.ref (b0), .int (iI (z))]) ++ List.replicate (4 - (lg_sl ([.ref (b0), .int (iI (z))])).length) Slot.unset).toArray = ls at hl ⊢
  have hl : lv_has ls 4 [(0, .ref (b0)), (1, .int (iI (z)))] := hl
  refine lv_iconst (v := iI (0)) hx hb d_mo_speaks_0 rfl ?_
  refine lv_istore_n hx hb d_mo_speaks_1 rfl hl (by decide) rfl (fun ls hl => ?_)
  have hl : lv_has ls 4 [(2, .int (iI (0))), (0, .ref (b0)), (1, .int (iI (z)))] := hl
  refine lv_iconst (v := iI (1)) hx hb d_mo_speaks_2 rfl ?_
  refine lv_istore_n hx hb d_mo_speaks_3 rfl hl (by decide) rfl (fun ls hl => ?_)
  have hl : lv_has ls 4 [(3, .int (iI (1))), (2, .int (iI (0))), (0, .ref (b0)), (1, .int (iI (z)))] := hl
  have q_1 : iI (0) = bI (mus me k9 (0)) := by first | exact bo_0 rfl | exact mus_1 (by assumption) | exact mus_2 (by assumption) | exact mus_3 (by assumption) (by assumption)
  have q_2 : iI (1) = iI ((((0) + 1 : Nat) : Int)) := congrArg iI (by omega)
  have hl : lv_has ls 4 [(3, .int (iI ((((0) + 1 : Nat) : Int)))), (2, .int (bI (mus me k9 (0)))), (0, .ref (b0)), (1, .int (iI (z)))] := lv_eq9 hl (congr (congrArg List.cons (congrArg (fun z => ((3 : Nat), Value.int z)) q_2)) (congr (congrArg List.cons (congrArg (fun z => ((2 : Nat), Value.int z)) q_1)) (congr (congrArg List.cons (Eq.refl ((0 : Nat), Value.ref (b0)))) (congr (congrArg List.cons (Eq.refl ((1 : Nat), Value.int (iI (z))))) (rfl)))))
  have L4 : ∀ (fu : Nat) (k : Nat), 16 - k < fu → k ≤ pe.toNat → ∀ ls : Array Slot, lv_has ls 4 [(2, .int (bI (mus me k9 k))), (3, .int (iI (((k + 1 : Nat) : Int)))), (0, .ref (b0)), (1, .int (iI (z)))] → W p l e (headSpec (Cond.code y_mo_speaks prog_8_method_27_code 4 (some .boolean) :: TB) ({ frames := 0, cells := 0, slots := 0, locals := 0 })).room s m args below meth c s.heap [] 0 0 (MQ below (k2_QcV (.int (bI (msp kn me fo pe k9)))) args s 0 0 (fun _ => False)) (F0 m 4 ls []) := by
    intro fu
    induction fu with
    | zero => intro k hfu; exact absurd hfu (Nat.not_lt_zero _)
    | succ fu ih4 =>
      intro k hfu hk ls hl
      refine lv_iload_n hx hb d_mo_speaks_4 rfl (lv_at hl 1 rfl) ?_
      refine lv_aload_n hx hb d_mo_speaks_5 rfl (lv_at hl 2 rfl) ?_
      refine va_get (D := (dC, dI)) (ci := 6) (v := .int (iI (pe))) (C := "OrganConsoleModel") (T := T_mo) (N := 29) hx hb htb in_mo hown hK hP 0 rfl rfl 19 (by decide) (htb _ tw_760) (fun _ h9 => h9) rfl d_mo_speaks_6 ?_
      refine xi_icmp_gt (tgt := 46) hx hb ⟨by omega, by omega⟩ ⟨by omega, by omega⟩ d_mo_speaks_9 (by decide) (fun u_3 => ?_) (fun u_3 => ?_)
      · skip
        have h99 : pe.toNat = k := by omega
        refine lv_aload_n hx hb d_mo_speaks_46 rfl (lv_at hl 2 rfl) ?_
        refine va_get (D := (dC, dI)) (ci := 6) (v := .ref (b5)) (C := "OrganConsoleModel") (T := T_mo) (N := 29) hx hb htb in_mo hown hK hP 0 rfl rfl 6 (by decide) (htb _ tw_747) (fun _ h9 => h9) rfl d_mo_speaks_47 ?_
        refine lv_iload_n hx hb d_mo_speaks_50 rfl (lv_at hl 3 rfl) ?_
        refine xa_zald hx hb hK hP 5 2 rfl rfl k9 (by omega) (by omega) (by decide) d_mo_speaks_51 ?_
        refine xz_if_ne (tgt := 66) hx hb d_mo_speaks_52 (by decide) (fun u_4 => ?_) (fun u_4 => ?_)
        · skip
          refine lv_iconst (v := iI (1)) hx hb d_mo_speaks_66 rfl ?_
          refine lv_goto (tgt := 71) hx hb d_mo_speaks_67 (by decide) ?_
          have q_5 : iI (1) = bI (msp kn me fo pe k9) := by
            unfold msp; rw [h99]; exact bo_1 (by simp_all)
          rw [q_5]
          exact W.zret (ty := .boolean) (v := bI (msp kn me fo pe k9)) hx hb hr (bI_narrow _) (fun t ht hW => ⟨rfl, ht⟩) t_nil d_mo_speaks_71
        · skip
          refine lv_iload_n hx hb d_mo_speaks_55 rfl (lv_at hl 0 rfl) ?_
          refine xz_if_ne (tgt := 66) hx hb d_mo_speaks_56 (by decide) (fun u_6 => ?_) (fun u_6 => ?_)
          · skip
            refine lv_iconst (v := iI (1)) hx hb d_mo_speaks_66 rfl ?_
            refine lv_goto (tgt := 71) hx hb d_mo_speaks_67 (by decide) ?_
            have q_7 : iI (1) = bI (msp kn me fo pe k9) := by
              unfold msp; rw [h99]; exact bo_1 (by simp_all)
            rw [q_7]
            exact W.zret (ty := .boolean) (v := bI (msp kn me fo pe k9)) hx hb hr (bI_narrow _) (fun t ht hW => ⟨rfl, ht⟩) t_nil d_mo_speaks_71
          · skip
            refine lv_aload_n hx hb d_mo_speaks_59 rfl (lv_at hl 2 rfl) ?_
            refine va_get (D := (dC, dI)) (ci := 6) (v := .int (bI (fo))) (C := "OrganConsoleModel") (T := T_mo) (N := 29) hx hb htb in_mo hown hK hP 0 rfl rfl 16 (by decide) (htb _ tw_757) (fun _ h9 => h9) rfl d_mo_speaks_60 ?_
            refine xz_if_eq (tgt := 70) hx hb d_mo_speaks_63 (by decide) (fun u_8 => ?_) (fun u_8 => ?_)
            · skip
              refine lv_iconst (v := iI (0)) hx hb d_mo_speaks_70 rfl ?_
              have q_9 : iI (0) = bI (msp kn me fo pe k9) := by
                unfold msp; rw [h99]; exact bo_0 (by simp_all)
              rw [q_9]
              exact W.zret (ty := .boolean) (v := bI (msp kn me fo pe k9)) hx hb hr (bI_narrow _) (fun t ht hW => ⟨rfl, ht⟩) t_nil d_mo_speaks_71
            · skip
              refine lv_iconst (v := iI (1)) hx hb d_mo_speaks_66 rfl ?_
              refine lv_goto (tgt := 71) hx hb d_mo_speaks_67 (by decide) ?_
              have q_10 : iI (1) = bI (msp kn me fo pe k9) := by
                unfold msp; rw [h99]; exact bo_1 (by simp_all)
              rw [q_10]
              exact W.zret (ty := .boolean) (v := bI (msp kn me fo pe k9)) hx hb hr (bI_narrow _) (fun t ht hW => ⟨rfl, ht⟩) t_nil d_mo_speaks_71
      · skip
        refine lv_iload_n hx hb d_mo_speaks_12 rfl (lv_at hl 0 rfl) ?_
        refine xz_if_ne (tgt := 34) hx hb d_mo_speaks_13 (by decide) (fun u_11 => ?_) (fun u_11 => ?_)
        · skip
          refine lv_iconst (v := iI (1)) hx hb d_mo_speaks_34 rfl ?_
          refine lv_goto (tgt := 39) hx hb d_mo_speaks_35 (by decide) ?_
          refine lv_istore_n hx hb d_mo_speaks_39 rfl hl (by decide) rfl (fun ls hl => ?_)
          have hl : lv_has ls 4 [(2, .int (iI (1))), (3, .int (iI (((k + 1 : Nat) : Int)))), (0, .ref (b0)), (1, .int (iI (z)))] := hl
          refine lv_iinc (k := 1) (v := iI (((k + 1 : Nat) : Int) + 1)) hx hb d_mo_speaks_40 hl rfl (iI_add _ _) (by decide) rfl (fun ls hl => ?_)
          have hl : lv_has ls 4 [(3, .int (iI (((k + 1 : Nat) : Int) + 1))), (2, .int (iI (1))), (0, .ref (b0)), (1, .int (iI (z)))] := hl
          refine lv_goto (tgt := 4) hx hb d_mo_speaks_43 (by decide) ?_
          have q_12 : iI (1) = bI (mus me k9 (k + 1)) := by first | exact bo_0 rfl | exact mus_1 (by assumption) | exact mus_2 (by assumption) | exact mus_3 (by assumption) (by assumption)
          have q_13 : iI (((k + 1 : Nat) : Int) + 1) = iI ((((k + 1) + 1 : Nat) : Int)) := congrArg iI (by omega)
          have hl : lv_has ls 4 [(3, .int (iI ((((k + 1) + 1 : Nat) : Int)))), (2, .int (bI (mus me k9 (k + 1)))), (0, .ref (b0)), (1, .int (iI (z)))] := lv_eq9 hl (congr (congrArg List.cons (congrArg (fun z => ((3 : Nat), Value.int z)) q_13)) (congr (congrArg List.cons (congrArg (fun z => ((2 : Nat), Value.int z)) q_12)) (congr (congrArg List.cons (Eq.refl ((0 : Nat), Value.ref (b0)))) (congr (congrArg List.cons (Eq.refl ((1 : Nat), Value.int (iI (z))))) (rfl)))))
          exact ih4 (k + 1) (by omega) (by omega) _ (lv_sub hl [1, 0, 2, 3] rfl)
        · skip
          refine lv_aload_n hx hb d_mo_speaks_16 rfl (lv_at hl 2 rfl) ?_
          refine va_get (D := (dC, dI)) (ci := 6) (v := .ref (b14)) (C := "OrganConsoleModel") (T := T_mo) (N := 29) hx hb htb in_mo hown hK hP 0 rfl rfl 21 (by decide) (htb _ tw_762) (fun _ h9 => h9) rfl d_mo_speaks_17 ?_
          refine lv_sipush (v := iI (20544)) hx hb d_mo_speaks_20 (by decide +kernel) ?_
          refine lv_bipush (v := iI (48)) hx hb d_mo_speaks_23 (by decide +kernel) ?_
          refine lv_iload_n hx hb d_mo_speaks_25 rfl (lv_at hl 1 rfl) ?_
          refine xi_mul hx hb d_mo_speaks_26 ?_
          refine xi_add hx hb d_mo_speaks_27 ?_
          refine lv_iload_n hx hb d_mo_speaks_28 rfl (lv_at hl 3 rfl) ?_
          refine xi_add hx hb d_mo_speaks_29 ?_
          refine xa_zald hx hb hK hP 14 2 rfl rfl (20544 + 48 * (k + 1) + k9) (by omega) (by omega) (by decide) d_mo_speaks_30 ?_
          refine xz_if_eq (tgt := 38) hx hb d_mo_speaks_31 (by decide) (fun u_14 => ?_) (fun u_14 => ?_)
          · skip
            refine lv_iconst (v := iI (0)) hx hb d_mo_speaks_38 rfl ?_
            refine lv_istore_n hx hb d_mo_speaks_39 rfl hl (by decide) rfl (fun ls hl => ?_)
            have hl : lv_has ls 4 [(2, .int (iI (0))), (3, .int (iI (((k + 1 : Nat) : Int)))), (0, .ref (b0)), (1, .int (iI (z)))] := hl
            refine lv_iinc (k := 1) (v := iI (((k + 1 : Nat) : Int) + 1)) hx hb d_mo_speaks_40 hl rfl (iI_add _ _) (by decide) rfl (fun ls hl => ?_)
            have hl : lv_has ls 4 [(3, .int (iI (((k + 1 : Nat) : Int) + 1))), (2, .int (iI (0))), (0, .ref (b0)), (1, .int (iI (z)))] := hl
            refine lv_goto (tgt := 4) hx hb d_mo_speaks_43 (by decide) ?_
            have q_15 : iI (0) = bI (mus me k9 (k + 1)) := by first | exact bo_0 rfl | exact mus_1 (by assumption) | exact mus_2 (by assumption) | exact mus_3 (by assumption) (by assumption)
            have q_16 : iI (((k + 1 : Nat) : Int) + 1) = iI ((((k + 1) + 1 : Nat) : Int)) := congrArg iI (by omega)
            have hl : lv_has ls 4 [(3, .int (iI ((((k + 1) + 1 : Nat) : Int)))), (2, .int (bI (mus me k9 (k + 1)))), (0, .ref (b0)), (1, .int (iI (z)))] := lv_eq9 hl (congr (congrArg List.cons (congrArg (fun z => ((3 : Nat), Value.int z)) q_16)) (congr (congrArg List.cons (congrArg (fun z => ((2 : Nat), Value.int z)) q_15)) (congr (congrArg List.cons (Eq.refl ((0 : Nat), Value.ref (b0)))) (congr (congrArg List.cons (Eq.refl ((1 : Nat), Value.int (iI (z))))) (rfl)))))
            exact ih4 (k + 1) (by omega) (by omega) _ (lv_sub hl [1, 0, 2, 3] rfl)
          · skip
            refine lv_iconst (v := iI (1)) hx hb d_mo_speaks_34 rfl ?_
            refine lv_goto (tgt := 39) hx hb d_mo_speaks_35 (by decide) ?_
            refine lv_istore_n hx hb d_mo_speaks_39 rfl hl (by decide) rfl (fun ls hl => ?_)
            have hl : lv_has ls 4 [(2, .int (iI (1))), (3, .int (iI (((k + 1 : Nat) : Int)))), (0, .ref (b0)), (1, .int (iI (z)))] := hl
            refine lv_iinc (k := 1) (v := iI (((k + 1 : Nat) : Int) + 1)) hx hb d_mo_speaks_40 hl rfl (iI_add _ _) (by decide) rfl (fun ls hl => ?_)
            have hl : lv_has ls 4 [(3, .int (iI (((k + 1 : Nat) : Int) + 1))), (2, .int (iI (1))), (0, .ref (b0)), (1, .int (iI (z)))] := hl
            refine lv_goto (tgt := 4) hx hb d_mo_speaks_43 (by decide) ?_
            have q_17 : iI (1) = bI (mus me k9 (k + 1)) := by first | exact bo_0 rfl | exact mus_1 (by assumption) | exact mus_2 (by assumption) | exact mus_3 (by assumption) (by assumption)
            have q_18 : iI (((k + 1 : Nat) : Int) + 1) = iI ((((k + 1) + 1 : Nat) : Int)) := congrArg iI (by omega)
            have hl : lv_has ls 4 [(3, .int (iI ((((k + 1) + 1 : Nat) : Int)))), (2, .int (bI (mus me k9 (k + 1)))), (0, .ref (b0)), (1, .int (iI (z)))] := lv_eq9 hl (congr (congrArg List.cons (congrArg (fun z => ((3 : Nat), Value.int z)) q_18)) (congr (congrArg List.cons (congrArg (fun z => ((2 : Nat), Value.int z)) q_17)) (congr (congrArg List.cons (Eq.refl ((0 : Nat), Value.ref (b0)))) (congr (congrArg List.cons (Eq.refl ((1 : Nat), Value.int (iI (z))))) (rfl)))))
            exact ih4 (k + 1) (by omega) (by omega) _ (lv_sub hl [1, 0, 2, 3] rfl)
  exact L4 ((16 - (0)) + 1) (0) (Nat.lt_succ_self _) (Nat.zero_le _) _ (lv_sub hl [1, 0, 2, 3] rfl)

set_option maxHeartbeats 200000 in
set_option maxRecDepth 100000 in
theorem c_mo_isDown (l : Launch) (dC : Nat → ClassId) (dI : Nat → Nat → Nat) (cI cL cZ : ClassId) (b0 b1 b2 b3 b4 b5 b6 b7 b8 b9 b10 b11 b12 b13 b14 b15 b16 b17 b18 b19 : Nat) (th lv pe cu fm nf : Int) (n nc : Nat) (fd fs fl fh ft fc fr tt sh cf ve li : Nat → Int) (kn tg tb dn me cp sp : Nat → Bool) (fo lk : Bool) (hn : n ≤ 48) (hnc : nc ≤ 16) (hft : ∀ s, 0 ≤ ft s ∧ ft s ≤ 3) (hfc : ∀ s, 0 ≤ fc s ∧ fc s ≤ 2) (hsb : ∀ s, 0 ≤ fd s ∧ fd s < 5 ∧ -24 ≤ fs s ∧ fs s ≤ 24 ∧ 0 ≤ fl s ∧ fl s ≤ 96 ∧ 0 ≤ fh s ∧ fh s ≤ 96) (hcb : ∀ c, 0 ≤ fr c ∧ fr c < 5 ∧ 0 ≤ tt c ∧ tt c < 5 ∧ -24 ≤ sh c ∧ sh c ≤ 24) (hve : ∀ p, 0 ≤ ve p ∧ ve p ≤ 100000) (hnf : nf = -1 ∨ nf = 0 ∨ nf = 1) (hlv : 0 ≤ lv ∧ lv ≤ 7) (hcu : -1 ≤ cu ∧ cu < fm) (hpe : 0 ≤ pe ∧ pe ≤ 15) (hfm : 0 ≤ fm ∧ fm ≤ 100) (hcf : ∀ c, 0 ≤ cf c ∧ cf c ≤ 100) (hli : ∀ j, 0 ≤ li j ∧ li j ≤ 2) (d z : Int) (hd : 0 ≤ d) (hd5 : d < 5) (hz0 : -2000 ≤ z) (hz1 : z ≤ 2000) : Met l y_mo_isDown (Cond.code y_mo_isDown prog_8_method_28_code 3 (some .boolean) :: TB) ({ frames := 0, cells := 0, slots := 0, locals := 0 }) (va_Pc [.ref (b0), .int (iI (d)), .int (iI (z))] (PW dC dI [(b0, .inr (6, [.int (iI (th)), .int (iI (((n : Nat) : Int))), .ref (b1), .ref (b2), .ref (b3), .ref (b4), .ref (b5), .ref (b6), .ref (b7), .ref (b8), .int (iI (((nc : Nat) : Int))), .ref (b9), .ref (b10), .ref (b11), .ref (b12), .ref (b13), .int (bI (fo)), .int (bI (lk)), .int (iI (lv)), .int (iI (pe)), .int (iI (cu)), .ref (b14), .int (iI (fm)), .ref (b15), .ref (b16), .ref (b17), .ref (b18), .int (iI (nf)), .ref (b19)])), (b1, .inl (cI, 48, .inl (aI (fd)))), (b2, .inl (cI, 48, .inl (aI (fs)))), (b3, .inl (cI, 48, .inl (aI (fl)))), (b4, .inl (cI, 48, .inl (aI (fh)))), (b5, .inl (cZ, 48, .inl (aZ (kn)))), (b6, .inl (cI, 48, .inl (aI (ft)))), (b7, .inl (cZ, 48, .inl (aZ (tg)))), (b8, .inl (cI, 48, .inl (aI (fc)))), (b9, .inl (cI, 16, .inl (aI (fr)))), (b10, .inl (cI, 16, .inl (aI (tt)))), (b11, .inl (cI, 16, .inl (aI (sh)))), (b12, .inl (cZ, 16, .inl (aZ (tb)))), (b13, .inl (cZ, 305, .inl (aZ (dn)))), (b14, .inl (cZ, 21312, .inl (aZ (me)))), (b15, .inl (cZ, 42624, .inl (aZ (cp)))), (b16, .inl (cI, 2, .inl (aI (cf)))), (b17, .inl (cI, 18, .inl (aI (ve)))), (b18, .inl (cZ, 18, .inl (aZ (sp)))), (b19, .inl (cI, 40, .inl (aI (li))))] [(cI, .int), (cL, .long), (cZ, .boolean)])) (k2_QcV (.int (bI (mdn dn d z)))) 0 0 (fun _ => False) := by
  refine Met.ofW (cc := prog_8_method_28_code) (maxL := 3) (ret := (some .boolean)) (by decide) rfl ?_
  intro p e s m args below meth c s₁ B hml hv
  obtain ⟨ha, hP, hK⟩ := hv
  have hx := B.exec
  have hb := B.bytes
  have hr := B.returns
  have htb : ∀ w ∈ TB, w.before args s = true := fun w h => atoms_spec (ws := Cond.code y_mo_isDown prog_8_method_28_code 3 (some .boolean) :: TB) B.pre w (List.mem_cons_of_mem _ h)
  have hown : s.vm.findClass "OrganConsoleModel" = some m.cls := findClass_of_methodNamed B.named
  have hlocks := B.notSynchronized
  have hl := lv_entry ([.ref (b0), .int (iI (d)), .int (iI (z))]) (n := 3) (Nat.le_of_ble_eq_true rfl)
  refine W.eq (g2 := F0 m 0 _ []) (by rw [ha]; exact lg_entry_eq m ([.ref (b0), .int (iI (d)), .int (iI (z))]) 3) ?_
  generalize (lg_sl ([.ref (b0), .int (iI (d)), .int (iI (z))]) ++ List.replicate (3 - (lg_sl ([.ref (b0), .int (iI (d)), .int (iI (z))])).length) Slot.unset).toArray = ls at hl ⊢
  have hl : lv_has ls 3 [(0, .ref (b0)), (1, .int (iI (d))), (2, .int (iI (z)))] := hl
  refine lv_iload_n hx hb d_mo_isDown_0 rfl (lv_at hl 2 rfl) ?_
  refine xi_if_lt (tgt := 28) hx hb ⟨by omega, by omega⟩ d_mo_isDown_1 (by decide) (fun u_1 => ?_) (fun u_1 => ?_)
  · skip
    refine lv_iconst (v := iI (0)) hx hb d_mo_isDown_28 rfl ?_
    have q_2 : iI (0) = bI (mdn dn d z) := by
      unfold mdn; exact bo_0 (by first | (rw [decide_eq_false (show ¬ 0 ≤ z by omega)]; rfl) | (rw [decide_eq_false (show ¬ z < 61 by omega)]; simp; done) | (simp_all; done))
    rw [q_2]
    exact W.zret (ty := .boolean) (v := bI (mdn dn d z)) hx hb hr (bI_narrow _) (fun t ht hW => ⟨rfl, ht⟩) t_nil d_mo_isDown_29
  · skip
    refine lv_iload_n hx hb d_mo_isDown_4 rfl (lv_at hl 2 rfl) ?_
    refine lv_bipush (v := iI (61)) hx hb d_mo_isDown_5 (by decide +kernel) ?_
    refine xi_icmp_ge (tgt := 28) hx hb ⟨by omega, by omega⟩ ⟨by omega, by omega⟩ d_mo_isDown_7 (by decide) (fun u_3 => ?_) (fun u_3 => ?_)
    · skip
      refine lv_iconst (v := iI (0)) hx hb d_mo_isDown_28 rfl ?_
      have q_4 : iI (0) = bI (mdn dn d z) := by
        unfold mdn; exact bo_0 (by first | (rw [decide_eq_false (show ¬ 0 ≤ z by omega)]; rfl) | (rw [decide_eq_false (show ¬ z < 61 by omega)]; simp; done) | (simp_all; done))
      rw [q_4]
      exact W.zret (ty := .boolean) (v := bI (mdn dn d z)) hx hb hr (bI_narrow _) (fun t ht hW => ⟨rfl, ht⟩) t_nil d_mo_isDown_29
    · skip
      refine lv_aload_n hx hb d_mo_isDown_10 rfl (lv_at hl 0 rfl) ?_
      refine va_get (D := (dC, dI)) (ci := 6) (v := .ref (b13)) (C := "OrganConsoleModel") (T := T_mo) (N := 29) hx hb htb in_mo hown hK hP 0 rfl rfl 15 (by decide) (htb _ tw_756) (fun _ h9 => h9) rfl d_mo_isDown_11 ?_
      refine lv_bipush (v := iI (61)) hx hb d_mo_isDown_14 (by decide +kernel) ?_
      refine lv_iload_n hx hb d_mo_isDown_16 rfl (lv_at hl 1 rfl) ?_
      refine xi_mul hx hb d_mo_isDown_17 ?_
      refine lv_iload_n hx hb d_mo_isDown_18 rfl (lv_at hl 2 rfl) ?_
      refine xi_add hx hb d_mo_isDown_19 ?_
      refine xa_zald hx hb hK hP 13 2 rfl rfl (61 * d.toNat + z.toNat) (by omega) (by omega) (by decide) d_mo_isDown_20 ?_
      refine xz_if_eq (tgt := 28) hx hb d_mo_isDown_21 (by decide) (fun u_5 => ?_) (fun u_5 => ?_)
      · skip
        refine lv_iconst (v := iI (0)) hx hb d_mo_isDown_28 rfl ?_
        have q_6 : iI (0) = bI (mdn dn d z) := by
          unfold mdn; exact bo_0 (by first | (rw [decide_eq_false (show ¬ 0 ≤ z by omega)]; rfl) | (rw [decide_eq_false (show ¬ z < 61 by omega)]; simp; done) | (simp_all; done))
        rw [q_6]
        exact W.zret (ty := .boolean) (v := bI (mdn dn d z)) hx hb hr (bI_narrow _) (fun t ht hW => ⟨rfl, ht⟩) t_nil d_mo_isDown_29
      · skip
        refine lv_iconst (v := iI (1)) hx hb d_mo_isDown_24 rfl ?_
        refine lv_goto (tgt := 29) hx hb d_mo_isDown_25 (by decide) ?_
        have q_7 : iI (1) = bI (mdn dn d z) := by
          unfold mdn; exact bo_1 (by rw [decide_eq_true (by omega), decide_eq_true (by omega)]; simp_all)
        rw [q_7]
        exact W.zret (ty := .boolean) (v := bI (mdn dn d z)) hx hb hr (bI_narrow _) (fun t ht hW => ⟨rfl, ht⟩) t_nil d_mo_isDown_29

set_option maxHeartbeats 200000 in
set_option maxRecDepth 100000 in
theorem c_mo_reached (l : Launch) (dC : Nat → ClassId) (dI : Nat → Nat → Nat) (cI cL cZ : ClassId) (b0 b1 b2 b3 b4 b5 b6 b7 b8 b9 b10 b11 b12 b13 b14 b15 b16 b17 b18 b19 : Nat) (th lv pe cu fm nf : Int) (n nc : Nat) (fd fs fl fh ft fc fr tt sh cf ve li : Nat → Int) (kn tg tb dn me cp sp : Nat → Bool) (fo lk : Bool) (hn : n ≤ 48) (hnc : nc ≤ 16) (hft : ∀ s, 0 ≤ ft s ∧ ft s ≤ 3) (hfc : ∀ s, 0 ≤ fc s ∧ fc s ≤ 2) (hsb : ∀ s, 0 ≤ fd s ∧ fd s < 5 ∧ -24 ≤ fs s ∧ fs s ≤ 24 ∧ 0 ≤ fl s ∧ fl s ≤ 96 ∧ 0 ≤ fh s ∧ fh s ≤ 96) (hcb : ∀ c, 0 ≤ fr c ∧ fr c < 5 ∧ 0 ≤ tt c ∧ tt c < 5 ∧ -24 ≤ sh c ∧ sh c ≤ 24) (hve : ∀ p, 0 ≤ ve p ∧ ve p ≤ 100000) (hnf : nf = -1 ∨ nf = 0 ∨ nf = 1) (hlv : 0 ≤ lv ∧ lv ≤ 7) (hcu : -1 ≤ cu ∧ cu < fm) (hpe : 0 ≤ pe ∧ pe ≤ 15) (hfm : 0 ≤ fm ∧ fm ≤ 100) (hcf : ∀ c, 0 ≤ cf c ∧ cf c ≤ 100) (hli : ∀ j, 0 ≤ li j ∧ li j ≤ 2) (d z : Int) (hd : 0 ≤ d) (hd5 : d < 5) (hz0 : -1000 ≤ z) (hz1 : z ≤ 1000) : Met l y_mo_reached (Cond.code y_mo_reached prog_8_method_29_code 5 (some .boolean) :: TB) ({ frames := 1, cells := 0, slots := 0, locals := 22 }) (va_Pc [.ref (b0), .int (iI (d)), .int (iI (z))] (PW dC dI [(b0, .inr (6, [.int (iI (th)), .int (iI (((n : Nat) : Int))), .ref (b1), .ref (b2), .ref (b3), .ref (b4), .ref (b5), .ref (b6), .ref (b7), .ref (b8), .int (iI (((nc : Nat) : Int))), .ref (b9), .ref (b10), .ref (b11), .ref (b12), .ref (b13), .int (bI (fo)), .int (bI (lk)), .int (iI (lv)), .int (iI (pe)), .int (iI (cu)), .ref (b14), .int (iI (fm)), .ref (b15), .ref (b16), .ref (b17), .ref (b18), .int (iI (nf)), .ref (b19)])), (b1, .inl (cI, 48, .inl (aI (fd)))), (b2, .inl (cI, 48, .inl (aI (fs)))), (b3, .inl (cI, 48, .inl (aI (fl)))), (b4, .inl (cI, 48, .inl (aI (fh)))), (b5, .inl (cZ, 48, .inl (aZ (kn)))), (b6, .inl (cI, 48, .inl (aI (ft)))), (b7, .inl (cZ, 48, .inl (aZ (tg)))), (b8, .inl (cI, 48, .inl (aI (fc)))), (b9, .inl (cI, 16, .inl (aI (fr)))), (b10, .inl (cI, 16, .inl (aI (tt)))), (b11, .inl (cI, 16, .inl (aI (sh)))), (b12, .inl (cZ, 16, .inl (aZ (tb)))), (b13, .inl (cZ, 305, .inl (aZ (dn)))), (b14, .inl (cZ, 21312, .inl (aZ (me)))), (b15, .inl (cZ, 42624, .inl (aZ (cp)))), (b16, .inl (cI, 2, .inl (aI (cf)))), (b17, .inl (cI, 18, .inl (aI (ve)))), (b18, .inl (cZ, 18, .inl (aZ (sp)))), (b19, .inl (cI, 40, .inl (aI (li))))] [(cI, .int), (cL, .long), (cZ, .boolean)])) (k2_QcV (.int (bI (mre dn fr tt sh tb d z nc)))) 0 0 (fun _ => False) := by
  refine Met.ofW (cc := prog_8_method_29_code) (maxL := 5) (ret := (some .boolean)) (by decide) rfl ?_
  intro p e s m args below meth c s₁ B hml hv
  obtain ⟨ha, hP, hK⟩ := hv
  have hx := B.exec
  have hb := B.bytes
  have hr := B.returns
  have htb : ∀ w ∈ TB, w.before args s = true := fun w h => atoms_spec (ws := Cond.code y_mo_reached prog_8_method_29_code 5 (some .boolean) :: TB) B.pre w (List.mem_cons_of_mem _ h)
  have hown : s.vm.findClass "OrganConsoleModel" = some m.cls := findClass_of_methodNamed B.named
  have hlocks := B.notSynchronized
  have hl := lv_entry ([.ref (b0), .int (iI (d)), .int (iI (z))]) (n := 5) (Nat.le_of_ble_eq_true rfl)
  refine W.eq (g2 := F0 m 0 _ []) (by rw [ha]; exact lg_entry_eq m ([.ref (b0), .int (iI (d)), .int (iI (z))]) 5) ?_
  generalize (lg_sl ([.ref (b0), .int (iI (d)), .int (iI (z))]) ++ List.replicate (5 - (lg_sl ([.ref (b0), .int (iI (d)), .int (iI (z))])).length) Slot.unset).toArray = ls at hl ⊢
  have hl : lv_has ls 5 [(0, .ref (b0)), (1, .int (iI (d))), (2, .int (iI (z)))] := hl
  refine lv_aload_n hx hb d_mo_reached_0 rfl (lv_at hl 0 rfl) ?_
  refine lv_iload_n hx hb d_mo_reached_1 rfl (lv_at hl 1 rfl) ?_
  refine lv_iload_n hx hb d_mo_reached_2 rfl (lv_at hl 2 rfl) ?_
  refine pcV hx hb hml hown htb (c_mo_isDown l dC dI cI cL cZ b0 b1 b2 b3 b4 b5 b6 b7 b8 b9 b10 b11 b12 b13 b14 b15 b16 b17 b18 b19 th lv pe cu fm nf n nc fd fs fl fh ft fc fr tt sh cf ve li kn tg tb dn me cp sp fo lk hn hnc hft hfc hsb hcb hve hnf hlv hcu hpe hfm hcf hli d z (by omega) (by omega) (by omega) (by omega)) tw_948 tw_950 tw_28 tw_40 tw_951 2 (by decide +kernel) rfl rfl ⟨Nat.le_of_ble_eq_true rfl, Nat.le_of_ble_eq_true rfl⟩ ⟨Nat.zero_le _, Nat.zero_le _⟩ [.int (iI (d)), .int (iI (z))] (PW_V (q0 := 0) (ci := 6) hP hP hK rfl rfl) rfl hl.1 rfl (Nat.le_of_ble_eq_true rfl) d_mo_reached_3 ?_
  refine lv_istore_n hx hb d_mo_reached_6 rfl hl (by decide) rfl (fun ls hl => ?_)
  have hl : lv_has ls 5 [(3, .int (bI (mdn dn d z))), (0, .ref (b0)), (1, .int (iI (d))), (2, .int (iI (z)))] := hl
  refine lv_iconst (v := iI (0)) hx hb d_mo_reached_7 rfl ?_
  refine lv_istore hx hb d_mo_reached_8 hl (by decide) rfl (fun ls hl => ?_)
  have hl : lv_has ls 5 [(4, .int (iI (0))), (3, .int (bI (mdn dn d z))), (0, .ref (b0)), (1, .int (iI (d))), (2, .int (iI (z)))] := hl
  have q_1 : bI (mdn dn d z) = bI (mre dn fr tt sh tb d z (0)) := by first | rfl | exact mre_1 (by assumption) | exact mre_2 (by assumption) (by assumption) (by assumption) | exact mre_3 (by assumption) (by assumption) | exact mre_4 (by assumption) (by assumption) | exact mre_5 (by assumption) (by assumption)
  have q_2 : iI (0) = iI ((((0) : Nat) : Int)) := congrArg iI (by omega)
  have hl : lv_has ls 5 [(4, .int (iI ((((0) : Nat) : Int)))), (3, .int (bI (mre dn fr tt sh tb d z (0)))), (0, .ref (b0)), (1, .int (iI (d))), (2, .int (iI (z)))] := lv_eq9 hl (congr (congrArg List.cons (congrArg (fun z => ((4 : Nat), Value.int z)) q_2)) (congr (congrArg List.cons (congrArg (fun z => ((3 : Nat), Value.int z)) q_1)) (congr (congrArg List.cons (Eq.refl ((0 : Nat), Value.ref (b0)))) (congr (congrArg List.cons (Eq.refl ((1 : Nat), Value.int (iI (d))))) (congr (congrArg List.cons (Eq.refl ((2 : Nat), Value.int (iI (z))))) (rfl))))))
  have L10 : ∀ (fu : Nat) (k : Nat), nc - k < fu → k ≤ nc → ∀ ls : Array Slot, lv_has ls 5 [(3, .int (bI (mre dn fr tt sh tb d z k))), (4, .int (iI (((k : Nat) : Int)))), (0, .ref (b0)), (1, .int (iI (d))), (2, .int (iI (z)))] → W p l e (headSpec (Cond.code y_mo_reached prog_8_method_29_code 5 (some .boolean) :: TB) ({ frames := 1, cells := 0, slots := 0, locals := 22 })).room s m args below meth c s.heap [] 0 0 (MQ below (k2_QcV (.int (bI (mre dn fr tt sh tb d z nc)))) args s 0 0 (fun _ => False)) (F0 m 10 ls []) := by
    intro fu
    induction fu with
    | zero => intro k hfu; exact absurd hfu (Nat.not_lt_zero _)
    | succ fu ih10 =>
      intro k hfu hk ls hl
      refine lv_iload hx hb d_mo_reached_10 (lv_at hl 1 rfl) ?_
      refine lv_aload_n hx hb d_mo_reached_12 rfl (lv_at hl 2 rfl) ?_
      refine va_get (D := (dC, dI)) (ci := 6) (v := .int (iI (((nc : Nat) : Int)))) (C := "OrganConsoleModel") (T := T_mo) (N := 29) hx hb htb in_mo hown hK hP 0 rfl rfl 10 (by decide) (htb _ tw_751) (fun _ h9 => h9) rfl d_mo_reached_13 ?_
      refine xi_icmp_ge (tgt := 79) hx hb ⟨by omega, by omega⟩ ⟨by omega, by omega⟩ d_mo_reached_16 (by decide) (fun u_3 => ?_) (fun u_3 => ?_)
      · skip
        refine lv_iload_n hx hb d_mo_reached_79 rfl (lv_at hl 0 rfl) ?_
        have q_4 : bI (mre dn fr tt sh tb d z k) = bI (mre dn fr tt sh tb d z nc) := by
          have : nc = k := by omega
          subst this
          rfl
        rw [q_4]
        exact W.zret (ty := .boolean) (v := bI (mre dn fr tt sh tb d z nc)) hx hb hr (bI_narrow _) (fun t ht hW => ⟨rfl, ht⟩) t_nil d_mo_reached_80
      · skip
        have hc := hcb k
        refine lv_iload_n hx hb d_mo_reached_19 rfl (lv_at hl 0 rfl) ?_
        refine xz_if_ne (tgt := 67) hx hb d_mo_reached_20 (by decide) (fun u_5 => ?_) (fun u_5 => ?_)
        · skip
          refine lv_iconst (v := iI (1)) hx hb d_mo_reached_67 rfl ?_
          refine lv_goto (tgt := 72) hx hb d_mo_reached_68 (by decide) ?_
          refine lv_istore_n hx hb d_mo_reached_72 rfl hl (by decide) rfl (fun ls hl => ?_)
          have hl : lv_has ls 5 [(3, .int (iI (1))), (4, .int (iI (((k : Nat) : Int)))), (0, .ref (b0)), (1, .int (iI (d))), (2, .int (iI (z)))] := hl
          refine lv_iinc (k := 1) (v := iI (((k : Nat) : Int) + 1)) hx hb d_mo_reached_73 hl rfl (iI_add _ _) (by decide) rfl (fun ls hl => ?_)
          have hl : lv_has ls 5 [(4, .int (iI (((k : Nat) : Int) + 1))), (3, .int (iI (1))), (0, .ref (b0)), (1, .int (iI (d))), (2, .int (iI (z)))] := hl
          refine lv_goto (tgt := 10) hx hb d_mo_reached_76 (by decide) ?_
          have q_6 : iI (1) = bI (mre dn fr tt sh tb d z (k + 1)) := by first | rfl | exact mre_1 (by assumption) | exact mre_2 (by assumption) (by assumption) (by assumption) | exact mre_3 (by assumption) (by assumption) | exact mre_4 (by assumption) (by assumption) | exact mre_5 (by assumption) (by assumption)
          have q_7 : iI (((k : Nat) : Int) + 1) = iI ((((k + 1) : Nat) : Int)) := congrArg iI (by omega)
          have hl : lv_has ls 5 [(4, .int (iI ((((k + 1) : Nat) : Int)))), (3, .int (bI (mre dn fr tt sh tb d z (k + 1)))), (0, .ref (b0)), (1, .int (iI (d))), (2, .int (iI (z)))] := lv_eq9 hl (congr (congrArg List.cons (congrArg (fun z => ((4 : Nat), Value.int z)) q_7)) (congr (congrArg List.cons (congrArg (fun z => ((3 : Nat), Value.int z)) q_6)) (congr (congrArg List.cons (Eq.refl ((0 : Nat), Value.ref (b0)))) (congr (congrArg List.cons (Eq.refl ((1 : Nat), Value.int (iI (d))))) (congr (congrArg List.cons (Eq.refl ((2 : Nat), Value.int (iI (z))))) (rfl))))))
          exact ih10 (k + 1) (by omega) (by omega) _ (lv_sub hl [1, 0, 2, 3, 4] rfl)
        · skip
          refine lv_aload_n hx hb d_mo_reached_23 rfl (lv_at hl 2 rfl) ?_
          refine va_get (D := (dC, dI)) (ci := 6) (v := .ref (b12)) (C := "OrganConsoleModel") (T := T_mo) (N := 29) hx hb htb in_mo hown hK hP 0 rfl rfl 14 (by decide) (htb _ tw_755) (fun _ h9 => h9) rfl d_mo_reached_24 ?_
          refine lv_iload hx hb d_mo_reached_27 (lv_at hl 1 rfl) ?_
          refine xa_zald hx hb hK hP 12 2 rfl rfl (k) (by omega) (by omega) (by decide) d_mo_reached_29 ?_
          refine xz_if_eq (tgt := 71) hx hb d_mo_reached_30 (by decide) (fun u_8 => ?_) (fun u_8 => ?_)
          · skip
            refine lv_iconst (v := iI (0)) hx hb d_mo_reached_71 rfl ?_
            refine lv_istore_n hx hb d_mo_reached_72 rfl hl (by decide) rfl (fun ls hl => ?_)
            have hl : lv_has ls 5 [(3, .int (iI (0))), (4, .int (iI (((k : Nat) : Int)))), (0, .ref (b0)), (1, .int (iI (d))), (2, .int (iI (z)))] := hl
            refine lv_iinc (k := 1) (v := iI (((k : Nat) : Int) + 1)) hx hb d_mo_reached_73 hl rfl (iI_add _ _) (by decide) rfl (fun ls hl => ?_)
            have hl : lv_has ls 5 [(4, .int (iI (((k : Nat) : Int) + 1))), (3, .int (iI (0))), (0, .ref (b0)), (1, .int (iI (d))), (2, .int (iI (z)))] := hl
            refine lv_goto (tgt := 10) hx hb d_mo_reached_76 (by decide) ?_
            have q_9 : iI (0) = bI (mre dn fr tt sh tb d z (k + 1)) := by first | rfl | exact mre_1 (by assumption) | exact mre_2 (by assumption) (by assumption) (by assumption) | exact mre_3 (by assumption) (by assumption) | exact mre_4 (by assumption) (by assumption) | exact mre_5 (by assumption) (by assumption)
            have q_10 : iI (((k : Nat) : Int) + 1) = iI ((((k + 1) : Nat) : Int)) := congrArg iI (by omega)
            have hl : lv_has ls 5 [(4, .int (iI ((((k + 1) : Nat) : Int)))), (3, .int (bI (mre dn fr tt sh tb d z (k + 1)))), (0, .ref (b0)), (1, .int (iI (d))), (2, .int (iI (z)))] := lv_eq9 hl (congr (congrArg List.cons (congrArg (fun z => ((4 : Nat), Value.int z)) q_10)) (congr (congrArg List.cons (congrArg (fun z => ((3 : Nat), Value.int z)) q_9)) (congr (congrArg List.cons (Eq.refl ((0 : Nat), Value.ref (b0)))) (congr (congrArg List.cons (Eq.refl ((1 : Nat), Value.int (iI (d))))) (congr (congrArg List.cons (Eq.refl ((2 : Nat), Value.int (iI (z))))) (rfl))))))
            exact ih10 (k + 1) (by omega) (by omega) _ (lv_sub hl [1, 0, 2, 3, 4] rfl)
          · skip
            refine lv_aload_n hx hb d_mo_reached_33 rfl (lv_at hl 2 rfl) ?_
            refine va_get (D := (dC, dI)) (ci := 6) (v := .ref (b10)) (C := "OrganConsoleModel") (T := T_mo) (N := 29) hx hb htb in_mo hown hK hP 0 rfl rfl 12 (by decide) (htb _ tw_753) (fun _ h9 => h9) rfl d_mo_reached_34 ?_
            refine lv_iload hx hb d_mo_reached_37 (lv_at hl 1 rfl) ?_
            refine xa_iald hx hb hK hP 10 0 rfl rfl (k) (by omega) (by omega) (by decide) d_mo_reached_39 ?_
            refine lv_iload_n hx hb d_mo_reached_40 rfl (lv_at hl 3 rfl) ?_
            refine xi_icmp_ne (tgt := 71) hx hb ⟨by omega, by omega⟩ ⟨by omega, by omega⟩ d_mo_reached_41 (by decide) (fun u_11 => ?_) (fun u_11 => ?_)
            · skip
              refine lv_iconst (v := iI (0)) hx hb d_mo_reached_71 rfl ?_
              refine lv_istore_n hx hb d_mo_reached_72 rfl hl (by decide) rfl (fun ls hl => ?_)
              have hl : lv_has ls 5 [(3, .int (iI (0))), (4, .int (iI (((k : Nat) : Int)))), (0, .ref (b0)), (1, .int (iI (d))), (2, .int (iI (z)))] := hl
              refine lv_iinc (k := 1) (v := iI (((k : Nat) : Int) + 1)) hx hb d_mo_reached_73 hl rfl (iI_add _ _) (by decide) rfl (fun ls hl => ?_)
              have hl : lv_has ls 5 [(4, .int (iI (((k : Nat) : Int) + 1))), (3, .int (iI (0))), (0, .ref (b0)), (1, .int (iI (d))), (2, .int (iI (z)))] := hl
              refine lv_goto (tgt := 10) hx hb d_mo_reached_76 (by decide) ?_
              have q_12 : iI (0) = bI (mre dn fr tt sh tb d z (k + 1)) := by first | rfl | exact mre_1 (by assumption) | exact mre_2 (by assumption) (by assumption) (by assumption) | exact mre_3 (by assumption) (by assumption) | exact mre_4 (by assumption) (by assumption) | exact mre_5 (by assumption) (by assumption)
              have q_13 : iI (((k : Nat) : Int) + 1) = iI ((((k + 1) : Nat) : Int)) := congrArg iI (by omega)
              have hl : lv_has ls 5 [(4, .int (iI ((((k + 1) : Nat) : Int)))), (3, .int (bI (mre dn fr tt sh tb d z (k + 1)))), (0, .ref (b0)), (1, .int (iI (d))), (2, .int (iI (z)))] := lv_eq9 hl (congr (congrArg List.cons (congrArg (fun z => ((4 : Nat), Value.int z)) q_13)) (congr (congrArg List.cons (congrArg (fun z => ((3 : Nat), Value.int z)) q_12)) (congr (congrArg List.cons (Eq.refl ((0 : Nat), Value.ref (b0)))) (congr (congrArg List.cons (Eq.refl ((1 : Nat), Value.int (iI (d))))) (congr (congrArg List.cons (Eq.refl ((2 : Nat), Value.int (iI (z))))) (rfl))))))
              exact ih10 (k + 1) (by omega) (by omega) _ (lv_sub hl [1, 0, 2, 3, 4] rfl)
            · skip
              refine lv_aload_n hx hb d_mo_reached_44 rfl (lv_at hl 2 rfl) ?_
              refine lv_aload_n hx hb d_mo_reached_45 rfl (lv_at hl 2 rfl) ?_
              refine va_get (D := (dC, dI)) (ci := 6) (v := .ref (b9)) (C := "OrganConsoleModel") (T := T_mo) (N := 29) hx hb htb in_mo hown hK hP 0 rfl rfl 11 (by decide) (htb _ tw_752) (fun _ h9 => h9) rfl d_mo_reached_46 ?_
              refine lv_iload hx hb d_mo_reached_49 (lv_at hl 1 rfl) ?_
              refine xa_iald hx hb hK hP 9 0 rfl rfl (k) (by omega) (by omega) (by decide) d_mo_reached_51 ?_
              refine lv_iload_n hx hb d_mo_reached_52 rfl (lv_at hl 4 rfl) ?_
              refine lv_aload_n hx hb d_mo_reached_53 rfl (lv_at hl 2 rfl) ?_
              refine va_get (D := (dC, dI)) (ci := 6) (v := .ref (b11)) (C := "OrganConsoleModel") (T := T_mo) (N := 29) hx hb htb in_mo hown hK hP 0 rfl rfl 13 (by decide) (htb _ tw_754) (fun _ h9 => h9) rfl d_mo_reached_54 ?_
              refine lv_iload hx hb d_mo_reached_57 (lv_at hl 1 rfl) ?_
              refine xa_iald hx hb hK hP 11 0 rfl rfl (k) (by omega) (by omega) (by decide) d_mo_reached_59 ?_
              refine xi_sub hx hb d_mo_reached_60 ?_
              refine pcV hx hb hml hown htb (c_mo_isDown l dC dI cI cL cZ b0 b1 b2 b3 b4 b5 b6 b7 b8 b9 b10 b11 b12 b13 b14 b15 b16 b17 b18 b19 th lv pe cu fm nf n nc fd fs fl fh ft fc fr tt sh cf ve li kn tg tb dn me cp sp fo lk hn hnc hft hfc hsb hcb hve hnf hlv hcu hpe hfm hcf hli ((fr) (k)) ((z) - ((sh) (k))) (by omega) (by omega) (by omega) (by omega)) tw_948 tw_950 tw_28 tw_40 tw_951 2 (by decide +kernel) rfl rfl ⟨Nat.le_of_ble_eq_true rfl, Nat.le_of_ble_eq_true rfl⟩ ⟨Nat.zero_le _, Nat.zero_le _⟩ [.int (iI ((fr) (k))), .int (iI ((z) - ((sh) (k))))] (PW_V (q0 := 0) (ci := 6) hP hP hK rfl rfl) rfl hl.1 rfl (Nat.le_of_ble_eq_true rfl) d_mo_reached_61 ?_
              refine xz_if_eq (tgt := 71) hx hb d_mo_reached_64 (by decide) (fun u_14 => ?_) (fun u_14 => ?_)
              · skip
                refine lv_iconst (v := iI (0)) hx hb d_mo_reached_71 rfl ?_
                refine lv_istore_n hx hb d_mo_reached_72 rfl hl (by decide) rfl (fun ls hl => ?_)
                have hl : lv_has ls 5 [(3, .int (iI (0))), (4, .int (iI (((k : Nat) : Int)))), (0, .ref (b0)), (1, .int (iI (d))), (2, .int (iI (z)))] := hl
                refine lv_iinc (k := 1) (v := iI (((k : Nat) : Int) + 1)) hx hb d_mo_reached_73 hl rfl (iI_add _ _) (by decide) rfl (fun ls hl => ?_)
                have hl : lv_has ls 5 [(4, .int (iI (((k : Nat) : Int) + 1))), (3, .int (iI (0))), (0, .ref (b0)), (1, .int (iI (d))), (2, .int (iI (z)))] := hl
                refine lv_goto (tgt := 10) hx hb d_mo_reached_76 (by decide) ?_
                have q_15 : iI (0) = bI (mre dn fr tt sh tb d z (k + 1)) := by first | rfl | exact mre_1 (by assumption) | exact mre_2 (by assumption) (by assumption) (by assumption) | exact mre_3 (by assumption) (by assumption) | exact mre_4 (by assumption) (by assumption) | exact mre_5 (by assumption) (by assumption)
                have q_16 : iI (((k : Nat) : Int) + 1) = iI ((((k + 1) : Nat) : Int)) := congrArg iI (by omega)
                have hl : lv_has ls 5 [(4, .int (iI ((((k + 1) : Nat) : Int)))), (3, .int (bI (mre dn fr tt sh tb d z (k + 1)))), (0, .ref (b0)), (1, .int (iI (d))), (2, .int (iI (z)))] := lv_eq9 hl (congr (congrArg List.cons (congrArg (fun z => ((4 : Nat), Value.int z)) q_16)) (congr (congrArg List.cons (congrArg (fun z => ((3 : Nat), Value.int z)) q_15)) (congr (congrArg List.cons (Eq.refl ((0 : Nat), Value.ref (b0)))) (congr (congrArg List.cons (Eq.refl ((1 : Nat), Value.int (iI (d))))) (congr (congrArg List.cons (Eq.refl ((2 : Nat), Value.int (iI (z))))) (rfl))))))
                exact ih10 (k + 1) (by omega) (by omega) _ (lv_sub hl [1, 0, 2, 3, 4] rfl)
              · skip
                refine lv_iconst (v := iI (1)) hx hb d_mo_reached_67 rfl ?_
                refine lv_goto (tgt := 72) hx hb d_mo_reached_68 (by decide) ?_
                refine lv_istore_n hx hb d_mo_reached_72 rfl hl (by decide) rfl (fun ls hl => ?_)
                have hl : lv_has ls 5 [(3, .int (iI (1))), (4, .int (iI (((k : Nat) : Int)))), (0, .ref (b0)), (1, .int (iI (d))), (2, .int (iI (z)))] := hl
                refine lv_iinc (k := 1) (v := iI (((k : Nat) : Int) + 1)) hx hb d_mo_reached_73 hl rfl (iI_add _ _) (by decide) rfl (fun ls hl => ?_)
                have hl : lv_has ls 5 [(4, .int (iI (((k : Nat) : Int) + 1))), (3, .int (iI (1))), (0, .ref (b0)), (1, .int (iI (d))), (2, .int (iI (z)))] := hl
                refine lv_goto (tgt := 10) hx hb d_mo_reached_76 (by decide) ?_
                have q_17 : iI (1) = bI (mre dn fr tt sh tb d z (k + 1)) := by first | rfl | exact mre_1 (by assumption) | exact mre_2 (by assumption) (by assumption) (by assumption) | exact mre_3 (by assumption) (by assumption) | exact mre_4 (by assumption) (by assumption) | exact mre_5 (by assumption) (by assumption)
                have q_18 : iI (((k : Nat) : Int) + 1) = iI ((((k + 1) : Nat) : Int)) := congrArg iI (by omega)
                have hl : lv_has ls 5 [(4, .int (iI ((((k + 1) : Nat) : Int)))), (3, .int (bI (mre dn fr tt sh tb d z (k + 1)))), (0, .ref (b0)), (1, .int (iI (d))), (2, .int (iI (z)))] := lv_eq9 hl (congr (congrArg List.cons (congrArg (fun z => ((4 : Nat), Value.int z)) q_18)) (congr (congrArg List.cons (congrArg (fun z => ((3 : Nat), Value.int z)) q_17)) (congr (congrArg List.cons (Eq.refl ((0 : Nat), Value.ref (b0)))) (congr (congrArg List.cons (Eq.refl ((1 : Nat), Value.int (iI (d))))) (congr (congrArg List.cons (Eq.refl ((2 : Nat), Value.int (iI (z))))) (rfl))))))
                exact ih10 (k + 1) (by omega) (by omega) _ (lv_sub hl [1, 0, 2, 3, 4] rfl)
  exact L10 ((nc - (0)) + 1) (0) (Nat.lt_succ_self _) (Nat.zero_le _) _ (lv_sub hl [1, 0, 2, 3, 4] rfl)

set_option maxHeartbeats 200000 in
set_option maxRecDepth 100000 in
theorem c_mo_isOpen (l : Launch) (dC : Nat → ClassId) (dI : Nat → Nat → Nat) (cI cL cZ : ClassId) (b0 b1 b2 b3 b4 b5 b6 b7 b8 b9 b10 b11 b12 b13 b14 b15 b16 b17 b18 b19 : Nat) (th lv pe cu fm nf : Int) (n nc : Nat) (fd fs fl fh ft fc fr tt sh cf ve li : Nat → Int) (kn tg tb dn me cp sp : Nat → Bool) (fo lk : Bool) (hn : n ≤ 48) (hnc : nc ≤ 16) (hft : ∀ s, 0 ≤ ft s ∧ ft s ≤ 3) (hfc : ∀ s, 0 ≤ fc s ∧ fc s ≤ 2) (hsb : ∀ s, 0 ≤ fd s ∧ fd s < 5 ∧ -24 ≤ fs s ∧ fs s ≤ 24 ∧ 0 ≤ fl s ∧ fl s ≤ 96 ∧ 0 ≤ fh s ∧ fh s ≤ 96) (hcb : ∀ c, 0 ≤ fr c ∧ fr c < 5 ∧ 0 ≤ tt c ∧ tt c < 5 ∧ -24 ≤ sh c ∧ sh c ≤ 24) (hve : ∀ p, 0 ≤ ve p ∧ ve p ≤ 100000) (hnf : nf = -1 ∨ nf = 0 ∨ nf = 1) (hlv : 0 ≤ lv ∧ lv ≤ 7) (hcu : -1 ≤ cu ∧ cu < fm) (hpe : 0 ≤ pe ∧ pe ≤ 15) (hfm : 0 ≤ fm ∧ fm ≤ 100) (hcf : ∀ c, 0 ≤ cf c ∧ cf c ≤ 100) (hli : ∀ j, 0 ≤ li j ∧ li j ≤ 2) (k9 : Nat) (z : Int) (hz : z = (k9 : Int)) (hk9 : k9 < 48) (q : Int) (in_q : inI q) : Met l y_mo_isOpen (Cond.code y_mo_isOpen prog_8_method_30_code 3 (some .boolean) :: TB) ({ frames := 2, cells := 0, slots := 0, locals := 46 }) (va_Pc [.ref (b0), .int (iI (z)), .int (iI (q))] (PW dC dI [(b0, .inr (6, [.int (iI (th)), .int (iI (((n : Nat) : Int))), .ref (b1), .ref (b2), .ref (b3), .ref (b4), .ref (b5), .ref (b6), .ref (b7), .ref (b8), .int (iI (((nc : Nat) : Int))), .ref (b9), .ref (b10), .ref (b11), .ref (b12), .ref (b13), .int (bI (fo)), .int (bI (lk)), .int (iI (lv)), .int (iI (pe)), .int (iI (cu)), .ref (b14), .int (iI (fm)), .ref (b15), .ref (b16), .ref (b17), .ref (b18), .int (iI (nf)), .ref (b19)])), (b1, .inl (cI, 48, .inl (aI (fd)))), (b2, .inl (cI, 48, .inl (aI (fs)))), (b3, .inl (cI, 48, .inl (aI (fl)))), (b4, .inl (cI, 48, .inl (aI (fh)))), (b5, .inl (cZ, 48, .inl (aZ (kn)))), (b6, .inl (cI, 48, .inl (aI (ft)))), (b7, .inl (cZ, 48, .inl (aZ (tg)))), (b8, .inl (cI, 48, .inl (aI (fc)))), (b9, .inl (cI, 16, .inl (aI (fr)))), (b10, .inl (cI, 16, .inl (aI (tt)))), (b11, .inl (cI, 16, .inl (aI (sh)))), (b12, .inl (cZ, 16, .inl (aZ (tb)))), (b13, .inl (cZ, 305, .inl (aZ (dn)))), (b14, .inl (cZ, 21312, .inl (aZ (me)))), (b15, .inl (cZ, 42624, .inl (aZ (cp)))), (b16, .inl (cI, 2, .inl (aI (cf)))), (b17, .inl (cI, 18, .inl (aI (ve)))), (b18, .inl (cZ, 18, .inl (aZ (sp)))), (b19, .inl (cI, 40, .inl (aI (li))))] [(cI, .int), (cL, .long), (cZ, .boolean)])) (k2_QcV (.int (bI (mio kn me fo pe fd fs fl fh dn fr tt sh tb nc k9 q)))) 0 0 (fun _ => False) := by
  refine Met.ofW (cc := prog_8_method_30_code) (maxL := 3) (ret := (some .boolean)) (by decide) rfl ?_
  intro p e s m args below meth c s₁ B hml hv
  obtain ⟨ha, hP, hK⟩ := hv
  have hx := B.exec
  have hb := B.bytes
  have hr := B.returns
  have htb : ∀ w ∈ TB, w.before args s = true := fun w h => atoms_spec (ws := Cond.code y_mo_isOpen prog_8_method_30_code 3 (some .boolean) :: TB) B.pre w (List.mem_cons_of_mem _ h)
  have hown : s.vm.findClass "OrganConsoleModel" = some m.cls := findClass_of_methodNamed B.named
  have hlocks := B.notSynchronized
  have hl := lv_entry ([.ref (b0), .int (iI (z)), .int (iI (q))]) (n := 3) (Nat.le_of_ble_eq_true rfl)
  refine W.eq (g2 := F0 m 0 _ []) (by rw [ha]; exact lg_entry_eq m ([.ref (b0), .int (iI (z)), .int (iI (q))]) 3) ?_
  generalize (lg_sl ([.ref (b0), .int (iI (z)), .int (iI (q))]) ++ List.replicate (3 - (lg_sl ([.ref (b0), .int (iI (z)), .int (iI (q))])).length) Slot.unset).toArray = ls at hl ⊢
  have hl : lv_has ls 3 [(0, .ref (b0)), (1, .int (iI (z))), (2, .int (iI (q)))] := hl
  obtain ⟨i1_q, i2_q⟩ := in_q
  have hs := hsb k9
  refine lv_aload_n hx hb d_mo_isOpen_0 rfl (lv_at hl 0 rfl) ?_
  refine lv_iload_n hx hb d_mo_isOpen_1 rfl (lv_at hl 1 rfl) ?_
  refine pcV hx hb hml hown htb (c_mo_speaks l dC dI cI cL cZ b0 b1 b2 b3 b4 b5 b6 b7 b8 b9 b10 b11 b12 b13 b14 b15 b16 b17 b18 b19 th lv pe cu fm nf n nc fd fs fl fh ft fc fr tt sh cf ve li kn tg tb dn me cp sp fo lk hn hnc hft hfc hsb hcb hve hnf hlv hcu hpe hfm hcf hli k9 _ (by omega) (by omega)) tw_932 tw_934 tw_24 tw_40 tw_935 1 (by decide +kernel) rfl rfl ⟨Nat.le_of_ble_eq_true rfl, Nat.le_of_ble_eq_true rfl⟩ ⟨Nat.zero_le _, Nat.zero_le _⟩ [.int (iI (z))] (PW_V (q0 := 0) (ci := 6) hP hP hK rfl rfl) rfl hl.1 rfl (Nat.le_of_ble_eq_true rfl) d_mo_isOpen_2 ?_
  refine xz_if_eq (tgt := 53) hx hb d_mo_isOpen_5 (by decide) (fun u_1 => ?_) (fun u_1 => ?_)
  · skip
    refine lv_iconst (v := iI (0)) hx hb d_mo_isOpen_53 rfl ?_
    have q_2 : iI (0) = bI (mio kn me fo pe fd fs fl fh dn fr tt sh tb nc k9 q) := by
      unfold mio; exact bo_0 (by first | (rw [decide_eq_false (show ¬ fl k9 ≤ q by omega)]; simp; done) | (rw [decide_eq_false (show ¬ q ≤ fh k9 by omega)]; simp; done) | (simp_all; done))
    rw [q_2]
    exact W.zret (ty := .boolean) (v := bI (mio kn me fo pe fd fs fl fh dn fr tt sh tb nc k9 q)) hx hb hr (bI_narrow _) (fun t ht hW => ⟨rfl, ht⟩) t_nil d_mo_isOpen_54
  · skip
    refine lv_iload_n hx hb d_mo_isOpen_8 rfl (lv_at hl 2 rfl) ?_
    refine lv_aload_n hx hb d_mo_isOpen_9 rfl (lv_at hl 0 rfl) ?_
    refine va_get (D := (dC, dI)) (ci := 6) (v := .ref (b3)) (C := "OrganConsoleModel") (T := T_mo) (N := 29) hx hb htb in_mo hown hK hP 0 rfl rfl 4 (by decide) (htb _ tw_745) (fun _ h9 => h9) rfl d_mo_isOpen_10 ?_
    refine lv_iload_n hx hb d_mo_isOpen_13 rfl (lv_at hl 1 rfl) ?_
    refine xa_iald hx hb hK hP 3 0 rfl rfl k9 (by omega) (by omega) (by decide) d_mo_isOpen_14 ?_
    refine xi_icmp_lt (tgt := 53) hx hb ⟨by omega, by omega⟩ ⟨by omega, by omega⟩ d_mo_isOpen_15 (by decide) (fun u_3 => ?_) (fun u_3 => ?_)
    · skip
      refine lv_iconst (v := iI (0)) hx hb d_mo_isOpen_53 rfl ?_
      have q_4 : iI (0) = bI (mio kn me fo pe fd fs fl fh dn fr tt sh tb nc k9 q) := by
        unfold mio; exact bo_0 (by first | (rw [decide_eq_false (show ¬ fl k9 ≤ q by omega)]; simp; done) | (rw [decide_eq_false (show ¬ q ≤ fh k9 by omega)]; simp; done) | (simp_all; done))
      rw [q_4]
      exact W.zret (ty := .boolean) (v := bI (mio kn me fo pe fd fs fl fh dn fr tt sh tb nc k9 q)) hx hb hr (bI_narrow _) (fun t ht hW => ⟨rfl, ht⟩) t_nil d_mo_isOpen_54
    · skip
      refine lv_iload_n hx hb d_mo_isOpen_18 rfl (lv_at hl 2 rfl) ?_
      refine lv_aload_n hx hb d_mo_isOpen_19 rfl (lv_at hl 0 rfl) ?_
      refine va_get (D := (dC, dI)) (ci := 6) (v := .ref (b4)) (C := "OrganConsoleModel") (T := T_mo) (N := 29) hx hb htb in_mo hown hK hP 0 rfl rfl 5 (by decide) (htb _ tw_746) (fun _ h9 => h9) rfl d_mo_isOpen_20 ?_
      refine lv_iload_n hx hb d_mo_isOpen_23 rfl (lv_at hl 1 rfl) ?_
      refine xa_iald hx hb hK hP 4 0 rfl rfl k9 (by omega) (by omega) (by decide) d_mo_isOpen_24 ?_
      refine xi_icmp_gt (tgt := 53) hx hb ⟨by omega, by omega⟩ ⟨by omega, by omega⟩ d_mo_isOpen_25 (by decide) (fun u_5 => ?_) (fun u_5 => ?_)
      · skip
        refine lv_iconst (v := iI (0)) hx hb d_mo_isOpen_53 rfl ?_
        have q_6 : iI (0) = bI (mio kn me fo pe fd fs fl fh dn fr tt sh tb nc k9 q) := by
          unfold mio; exact bo_0 (by first | (rw [decide_eq_false (show ¬ fl k9 ≤ q by omega)]; simp; done) | (rw [decide_eq_false (show ¬ q ≤ fh k9 by omega)]; simp; done) | (simp_all; done))
        rw [q_6]
        exact W.zret (ty := .boolean) (v := bI (mio kn me fo pe fd fs fl fh dn fr tt sh tb nc k9 q)) hx hb hr (bI_narrow _) (fun t ht hW => ⟨rfl, ht⟩) t_nil d_mo_isOpen_54
      · skip
        refine lv_aload_n hx hb d_mo_isOpen_28 rfl (lv_at hl 0 rfl) ?_
        refine lv_aload_n hx hb d_mo_isOpen_29 rfl (lv_at hl 0 rfl) ?_
        refine va_get (D := (dC, dI)) (ci := 6) (v := .ref (b1)) (C := "OrganConsoleModel") (T := T_mo) (N := 29) hx hb htb in_mo hown hK hP 0 rfl rfl 2 (by decide) (htb _ tw_743) (fun _ h9 => h9) rfl d_mo_isOpen_30 ?_
        refine lv_iload_n hx hb d_mo_isOpen_33 rfl (lv_at hl 1 rfl) ?_
        refine xa_iald hx hb hK hP 1 0 rfl rfl k9 (by omega) (by omega) (by decide) d_mo_isOpen_34 ?_
        refine lv_iload_n hx hb d_mo_isOpen_35 rfl (lv_at hl 2 rfl) ?_
        refine lv_aload_n hx hb d_mo_isOpen_36 rfl (lv_at hl 0 rfl) ?_
        refine va_get (D := (dC, dI)) (ci := 6) (v := .ref (b2)) (C := "OrganConsoleModel") (T := T_mo) (N := 29) hx hb htb in_mo hown hK hP 0 rfl rfl 3 (by decide) (htb _ tw_744) (fun _ h9 => h9) rfl d_mo_isOpen_37 ?_
        refine lv_iload_n hx hb d_mo_isOpen_40 rfl (lv_at hl 1 rfl) ?_
        refine xa_iald hx hb hK hP 2 0 rfl rfl k9 (by omega) (by omega) (by decide) d_mo_isOpen_41 ?_
        refine xi_sub hx hb d_mo_isOpen_42 ?_
        refine pcV hx hb hml hown htb (c_mo_reached l dC dI cI cL cZ b0 b1 b2 b3 b4 b5 b6 b7 b8 b9 b10 b11 b12 b13 b14 b15 b16 b17 b18 b19 th lv pe cu fm nf n nc fd fs fl fh ft fc fr tt sh cf ve li kn tg tb dn me cp sp fo lk hn hnc hft hfc hsb hcb hve hnf hlv hcu hpe hfm hcf hli ((fd) k9) ((q) - ((fs) k9)) (by omega) (by omega) (by omega) (by omega)) tw_944 tw_946 tw_27 tw_40 tw_947 2 (by decide +kernel) rfl rfl ⟨Nat.le_of_ble_eq_true rfl, Nat.le_of_ble_eq_true rfl⟩ ⟨Nat.zero_le _, Nat.zero_le _⟩ [.int (iI ((fd) k9)), .int (iI ((q) - ((fs) k9)))] (PW_V (q0 := 0) (ci := 6) hP hP hK rfl rfl) rfl hl.1 rfl (Nat.le_of_ble_eq_true rfl) d_mo_isOpen_43 ?_
        refine xz_if_eq (tgt := 53) hx hb d_mo_isOpen_46 (by decide) (fun u_7 => ?_) (fun u_7 => ?_)
        · skip
          refine lv_iconst (v := iI (0)) hx hb d_mo_isOpen_53 rfl ?_
          have q_8 : iI (0) = bI (mio kn me fo pe fd fs fl fh dn fr tt sh tb nc k9 q) := by
            unfold mio; exact bo_0 (by first | (rw [decide_eq_false (show ¬ fl k9 ≤ q by omega)]; simp; done) | (rw [decide_eq_false (show ¬ q ≤ fh k9 by omega)]; simp; done) | (simp_all; done))
          rw [q_8]
          exact W.zret (ty := .boolean) (v := bI (mio kn me fo pe fd fs fl fh dn fr tt sh tb nc k9 q)) hx hb hr (bI_narrow _) (fun t ht hW => ⟨rfl, ht⟩) t_nil d_mo_isOpen_54
        · skip
          refine lv_iconst (v := iI (1)) hx hb d_mo_isOpen_49 rfl ?_
          refine lv_goto (tgt := 54) hx hb d_mo_isOpen_50 (by decide) ?_
          have q_9 : iI (1) = bI (mio kn me fo pe fd fs fl fh dn fr tt sh tb nc k9 q) := by
            unfold mio; exact bo_1 (by rw [decide_eq_true (by omega), decide_eq_true (by omega)]; simp_all)
          rw [q_9]
          exact W.zret (ty := .boolean) (v := bI (mio kn me fo pe fd fs fl fh dn fr tt sh tb nc k9 q)) hx hb hr (bI_narrow _) (fun t ht hW => ⟨rfl, ht⟩) t_nil d_mo_isOpen_54

set_option maxHeartbeats 200000 in
set_option maxRecDepth 100000 in
theorem c_mo_openPipes (l : Launch) (dC : Nat → ClassId) (dI : Nat → Nat → Nat) (cI cL cZ : ClassId) (b0 b1 b2 b3 b4 b5 b6 b7 b8 b9 b10 b11 b12 b13 b14 b15 b16 b17 b18 b19 : Nat) (th lv pe cu fm nf : Int) (n nc : Nat) (fd fs fl fh ft fc fr tt sh cf ve li : Nat → Int) (kn tg tb dn me cp sp : Nat → Bool) (fo lk : Bool) (hn : n ≤ 48) (hnc : nc ≤ 16) (hft : ∀ s, 0 ≤ ft s ∧ ft s ≤ 3) (hfc : ∀ s, 0 ≤ fc s ∧ fc s ≤ 2) (hsb : ∀ s, 0 ≤ fd s ∧ fd s < 5 ∧ -24 ≤ fs s ∧ fs s ≤ 24 ∧ 0 ≤ fl s ∧ fl s ≤ 96 ∧ 0 ≤ fh s ∧ fh s ≤ 96) (hcb : ∀ c, 0 ≤ fr c ∧ fr c < 5 ∧ 0 ≤ tt c ∧ tt c < 5 ∧ -24 ≤ sh c ∧ sh c ≤ 24) (hve : ∀ p, 0 ≤ ve p ∧ ve p ≤ 100000) (hnf : nf = -1 ∨ nf = 0 ∨ nf = 1) (hlv : 0 ≤ lv ∧ lv ≤ 7) (hcu : -1 ≤ cu ∧ cu < fm) (hpe : 0 ≤ pe ∧ pe ≤ 15) (hfm : 0 ≤ fm ∧ fm ≤ 100) (hcf : ∀ c, 0 ≤ cf c ∧ cf c ≤ 100) (hli : ∀ j, 0 ≤ li j ∧ li j ≤ 2) (k9 : Nat) (z : Int) (hz : z = (k9 : Int)) (hk9 : k9 < 48) : Met l y_mo_openPipes (Cond.code y_mo_openPipes prog_8_method_31_code 4 (some .int) :: TB) ({ frames := 3, cells := 0, slots := 0, locals := 68 }) (va_Pc [.ref (b0), .int (iI (z))] (PW dC dI [(b0, .inr (6, [.int (iI (th)), .int (iI (((n : Nat) : Int))), .ref (b1), .ref (b2), .ref (b3), .ref (b4), .ref (b5), .ref (b6), .ref (b7), .ref (b8), .int (iI (((nc : Nat) : Int))), .ref (b9), .ref (b10), .ref (b11), .ref (b12), .ref (b13), .int (bI (fo)), .int (bI (lk)), .int (iI (lv)), .int (iI (pe)), .int (iI (cu)), .ref (b14), .int (iI (fm)), .ref (b15), .ref (b16), .ref (b17), .ref (b18), .int (iI (nf)), .ref (b19)])), (b1, .inl (cI, 48, .inl (aI (fd)))), (b2, .inl (cI, 48, .inl (aI (fs)))), (b3, .inl (cI, 48, .inl (aI (fl)))), (b4, .inl (cI, 48, .inl (aI (fh)))), (b5, .inl (cZ, 48, .inl (aZ (kn)))), (b6, .inl (cI, 48, .inl (aI (ft)))), (b7, .inl (cZ, 48, .inl (aZ (tg)))), (b8, .inl (cI, 48, .inl (aI (fc)))), (b9, .inl (cI, 16, .inl (aI (fr)))), (b10, .inl (cI, 16, .inl (aI (tt)))), (b11, .inl (cI, 16, .inl (aI (sh)))), (b12, .inl (cZ, 16, .inl (aZ (tb)))), (b13, .inl (cZ, 305, .inl (aZ (dn)))), (b14, .inl (cZ, 21312, .inl (aZ (me)))), (b15, .inl (cZ, 42624, .inl (aZ (cp)))), (b16, .inl (cI, 2, .inl (aI (cf)))), (b17, .inl (cI, 18, .inl (aI (ve)))), (b18, .inl (cZ, 18, .inl (aZ (sp)))), (b19, .inl (cI, 40, .inl (aI (li))))] [(cI, .int), (cL, .long), (cZ, .boolean)])) (k2_QcV (.int (iI (((cnt (fun q => mio kn me fo pe fd fs fl fh dn fr tt sh tb nc k9 (q : Int)) 97 : Nat) : Int))))) 0 0 (fun _ => False) := by
  refine Met.ofW (cc := prog_8_method_31_code) (maxL := 4) (ret := (some .int)) (by decide) rfl ?_
  intro p e s m args below meth c s₁ B hml hv
  obtain ⟨ha, hP, hK⟩ := hv
  have hx := B.exec
  have hb := B.bytes
  have hr := B.returns
  have htb : ∀ w ∈ TB, w.before args s = true := fun w h => atoms_spec (ws := Cond.code y_mo_openPipes prog_8_method_31_code 4 (some .int) :: TB) B.pre w (List.mem_cons_of_mem _ h)
  have hown : s.vm.findClass "OrganConsoleModel" = some m.cls := findClass_of_methodNamed B.named
  have hlocks := B.notSynchronized
  have hl := lv_entry ([.ref (b0), .int (iI (z))]) (n := 4) (Nat.le_of_ble_eq_true rfl)
  refine W.eq (g2 := F0 m 0 _ []) (by rw [ha]; exact lg_entry_eq m ([.ref (b0), .int (iI (z))]) 4) ?_
  generalize (lg_sl ([.ref (b0), .int (iI (z))]) ++ List.replicate (4 - (lg_sl ([.ref (b0), .int (iI (z))])).length) Slot.unset).toArray = ls at hl ⊢
  have hl : lv_has ls 4 [(0, .ref (b0)), (1, .int (iI (z)))] := hl
  refine lv_iconst (v := iI (0)) hx hb d_mo_openPipes_0 rfl ?_
  refine lv_istore_n hx hb d_mo_openPipes_1 rfl hl (by decide) rfl (fun ls hl => ?_)
  have hl : lv_has ls 4 [(2, .int (iI (0))), (0, .ref (b0)), (1, .int (iI (z)))] := hl
  refine lv_iconst (v := iI (0)) hx hb d_mo_openPipes_2 rfl ?_
  refine lv_istore_n hx hb d_mo_openPipes_3 rfl hl (by decide) rfl (fun ls hl => ?_)
  have hl : lv_has ls 4 [(3, .int (iI (0))), (2, .int (iI (0))), (0, .ref (b0)), (1, .int (iI (z)))] := hl
  have q_1 : iI (0) = iI (((cnt (fun q => mio kn me fo pe fd fs fl fh dn fr tt sh tb nc k9 (q : Int)) (0) : Nat) : Int)) := congrArg iI (by first | (rw [cnt_z]; rfl) | (rw [cnt_t (by assumption)]; omega) | (rw [cnt_f (by assumption)]))
  have q_2 : iI (0) = iI ((((0) : Nat) : Int)) := congrArg iI (by omega)
  have hl : lv_has ls 4 [(3, .int (iI ((((0) : Nat) : Int)))), (2, .int (iI (((cnt (fun q => mio kn me fo pe fd fs fl fh dn fr tt sh tb nc k9 (q : Int)) (0) : Nat) : Int)))), (0, .ref (b0)), (1, .int (iI (z)))] := lv_eq9 hl (congr (congrArg List.cons (congrArg (fun z => ((3 : Nat), Value.int z)) q_2)) (congr (congrArg List.cons (congrArg (fun z => ((2 : Nat), Value.int z)) q_1)) (congr (congrArg List.cons (Eq.refl ((0 : Nat), Value.ref (b0)))) (congr (congrArg List.cons (Eq.refl ((1 : Nat), Value.int (iI (z))))) (rfl)))))
  have L4 : ∀ (fu : Nat) (k : Nat), 97 - k < fu → k ≤ 97 → ∀ ls : Array Slot, lv_has ls 4 [(2, .int (iI (((cnt (fun q => mio kn me fo pe fd fs fl fh dn fr tt sh tb nc k9 (q : Int)) k : Nat) : Int)))), (3, .int (iI (((k : Nat) : Int)))), (0, .ref (b0)), (1, .int (iI (z)))] → W p l e (headSpec (Cond.code y_mo_openPipes prog_8_method_31_code 4 (some .int) :: TB) ({ frames := 3, cells := 0, slots := 0, locals := 68 })).room s m args below meth c s.heap [] 0 0 (MQ below (k2_QcV (.int (iI (((cnt (fun q => mio kn me fo pe fd fs fl fh dn fr tt sh tb nc k9 (q : Int)) 97 : Nat) : Int))))) args s 0 0 (fun _ => False)) (F0 m 4 ls []) := by
    intro fu
    induction fu with
    | zero => intro k hfu; exact absurd hfu (Nat.not_lt_zero _)
    | succ fu ih4 =>
      intro k hfu hk ls hl
      refine lv_iload_n hx hb d_mo_openPipes_4 rfl (lv_at hl 1 rfl) ?_
      refine lv_bipush (v := iI (96)) hx hb d_mo_openPipes_5 (by decide +kernel) ?_
      refine xi_icmp_gt (tgt := 33) hx hb ⟨by omega, by omega⟩ ⟨by omega, by omega⟩ d_mo_openPipes_7 (by decide) (fun u_3 => ?_) (fun u_3 => ?_)
      · skip
        refine lv_iload_n hx hb d_mo_openPipes_33 rfl (lv_at hl 0 rfl) ?_
        have q_4 : iI (((cnt (fun q => mio kn me fo pe fd fs fl fh dn fr tt sh tb nc k9 (q : Int)) k : Nat) : Int)) = iI (((cnt (fun q => mio kn me fo pe fd fs fl fh dn fr tt sh tb nc k9 (q : Int)) 97 : Nat) : Int)) := by
          have : k = 97 := by omega
          subst this
          rfl
        rw [q_4]
        exact W.iret (v := iI (((cnt (fun q => mio kn me fo pe fd fs fl fh dn fr tt sh tb nc k9 (q : Int)) 97 : Nat) : Int))) hx hb hr (fun t ht hW => ⟨rfl, ht⟩) t_nil d_mo_openPipes_34
      · skip
        have hcl := cnt_le (fun q => mio kn me fo pe fd fs fl fh dn fr tt sh tb nc k9 (q : Int)) k
        refine lv_aload_n hx hb d_mo_openPipes_10 rfl (lv_at hl 2 rfl) ?_
        refine lv_iload_n hx hb d_mo_openPipes_11 rfl (lv_at hl 3 rfl) ?_
        refine lv_iload_n hx hb d_mo_openPipes_12 rfl (lv_at hl 1 rfl) ?_
        refine pcV hx hb hml hown htb (c_mo_isOpen l dC dI cI cL cZ b0 b1 b2 b3 b4 b5 b6 b7 b8 b9 b10 b11 b12 b13 b14 b15 b16 b17 b18 b19 th lv pe cu fm nf n nc fd fs fl fh ft fc fr tt sh cf ve li kn tg tb dn me cp sp fo lk hn hnc hft hfc hsb hcb hve hnf hlv hcu hpe hfm hcf hli k9 _ (by omega) (by omega) (((k : Nat) : Int)) ⟨by omega, by omega⟩) tw_940 tw_942 tw_26 tw_40 tw_943 2 (by decide +kernel) rfl rfl ⟨Nat.le_of_ble_eq_true rfl, Nat.le_of_ble_eq_true rfl⟩ ⟨Nat.zero_le _, Nat.zero_le _⟩ [.int (iI (z)), .int (iI (((k : Nat) : Int)))] (PW_V (q0 := 0) (ci := 6) hP hP hK rfl rfl) rfl hl.1 rfl (Nat.le_of_ble_eq_true rfl) d_mo_openPipes_13 ?_
        refine xz_if_eq (tgt := 25) hx hb d_mo_openPipes_16 (by decide) (fun u_5 => ?_) (fun u_5 => ?_)
        · skip
          refine lv_iload_n hx hb d_mo_openPipes_25 rfl (lv_at hl 0 rfl) ?_
          refine lv_istore_n hx hb d_mo_openPipes_26 rfl hl (by decide) rfl (fun ls hl => ?_)
          have hl : lv_has ls 4 [(2, .int (iI (((cnt (fun q => mio kn me fo pe fd fs fl fh dn fr tt sh tb nc k9 (q : Int)) k : Nat) : Int)))), (3, .int (iI (((k : Nat) : Int)))), (0, .ref (b0)), (1, .int (iI (z)))] := hl
          refine lv_iinc (k := 1) (v := iI (((k : Nat) : Int) + 1)) hx hb d_mo_openPipes_27 hl rfl (iI_add _ _) (by decide) rfl (fun ls hl => ?_)
          have hl : lv_has ls 4 [(3, .int (iI (((k : Nat) : Int) + 1))), (2, .int (iI (((cnt (fun q => mio kn me fo pe fd fs fl fh dn fr tt sh tb nc k9 (q : Int)) k : Nat) : Int)))), (0, .ref (b0)), (1, .int (iI (z)))] := hl
          refine lv_goto (tgt := 4) hx hb d_mo_openPipes_30 (by decide) ?_
          have q_6 : iI (((cnt (fun q => mio kn me fo pe fd fs fl fh dn fr tt sh tb nc k9 (q : Int)) k : Nat) : Int)) = iI (((cnt (fun q => mio kn me fo pe fd fs fl fh dn fr tt sh tb nc k9 (q : Int)) (k + 1) : Nat) : Int)) := congrArg iI (by first | (rw [cnt_z]; rfl) | (rw [cnt_t (by assumption)]; omega) | (rw [cnt_f (by assumption)]))
          have q_7 : iI (((k : Nat) : Int) + 1) = iI ((((k + 1) : Nat) : Int)) := congrArg iI (by omega)
          have hl : lv_has ls 4 [(3, .int (iI ((((k + 1) : Nat) : Int)))), (2, .int (iI (((cnt (fun q => mio kn me fo pe fd fs fl fh dn fr tt sh tb nc k9 (q : Int)) (k + 1) : Nat) : Int)))), (0, .ref (b0)), (1, .int (iI (z)))] := lv_eq9 hl (congr (congrArg List.cons (congrArg (fun z => ((3 : Nat), Value.int z)) q_7)) (congr (congrArg List.cons (congrArg (fun z => ((2 : Nat), Value.int z)) q_6)) (congr (congrArg List.cons (Eq.refl ((0 : Nat), Value.ref (b0)))) (congr (congrArg List.cons (Eq.refl ((1 : Nat), Value.int (iI (z))))) (rfl)))))
          exact ih4 (k + 1) (by omega) (by omega) _ (lv_sub hl [1, 0, 2, 3] rfl)
        · skip
          refine lv_iload_n hx hb d_mo_openPipes_19 rfl (lv_at hl 0 rfl) ?_
          refine lv_iconst (v := iI (1)) hx hb d_mo_openPipes_20 rfl ?_
          refine xi_add hx hb d_mo_openPipes_21 ?_
          refine lv_goto (tgt := 26) hx hb d_mo_openPipes_22 (by decide) ?_
          refine lv_istore_n hx hb d_mo_openPipes_26 rfl hl (by decide) rfl (fun ls hl => ?_)
          have hl : lv_has ls 4 [(2, .int (iI ((((cnt (fun q => mio kn me fo pe fd fs fl fh dn fr tt sh tb nc k9 (q : Int)) k : Nat) : Int)) + (1)))), (3, .int (iI (((k : Nat) : Int)))), (0, .ref (b0)), (1, .int (iI (z)))] := hl
          refine lv_iinc (k := 1) (v := iI (((k : Nat) : Int) + 1)) hx hb d_mo_openPipes_27 hl rfl (iI_add _ _) (by decide) rfl (fun ls hl => ?_)
          have hl : lv_has ls 4 [(3, .int (iI (((k : Nat) : Int) + 1))), (2, .int (iI ((((cnt (fun q => mio kn me fo pe fd fs fl fh dn fr tt sh tb nc k9 (q : Int)) k : Nat) : Int)) + (1)))), (0, .ref (b0)), (1, .int (iI (z)))] := hl
          refine lv_goto (tgt := 4) hx hb d_mo_openPipes_30 (by decide) ?_
          have q_8 : iI ((((cnt (fun q => mio kn me fo pe fd fs fl fh dn fr tt sh tb nc k9 (q : Int)) k : Nat) : Int)) + (1)) = iI (((cnt (fun q => mio kn me fo pe fd fs fl fh dn fr tt sh tb nc k9 (q : Int)) (k + 1) : Nat) : Int)) := congrArg iI (by first | (rw [cnt_z]; rfl) | (rw [cnt_t (by assumption)]; omega) | (rw [cnt_f (by assumption)]))
          have q_9 : iI (((k : Nat) : Int) + 1) = iI ((((k + 1) : Nat) : Int)) := congrArg iI (by omega)
          have hl : lv_has ls 4 [(3, .int (iI ((((k + 1) : Nat) : Int)))), (2, .int (iI (((cnt (fun q => mio kn me fo pe fd fs fl fh dn fr tt sh tb nc k9 (q : Int)) (k + 1) : Nat) : Int)))), (0, .ref (b0)), (1, .int (iI (z)))] := lv_eq9 hl (congr (congrArg List.cons (congrArg (fun z => ((3 : Nat), Value.int z)) q_9)) (congr (congrArg List.cons (congrArg (fun z => ((2 : Nat), Value.int z)) q_8)) (congr (congrArg List.cons (Eq.refl ((0 : Nat), Value.ref (b0)))) (congr (congrArg List.cons (Eq.refl ((1 : Nat), Value.int (iI (z))))) (rfl)))))
          exact ih4 (k + 1) (by omega) (by omega) _ (lv_sub hl [1, 0, 2, 3] rfl)
  exact L4 ((97 - (0)) + 1) (0) (Nat.lt_succ_self _) (by omega) _ (lv_sub hl [1, 0, 2, 3] rfl)

set_option maxHeartbeats 200000 in
set_option maxRecDepth 100000 in
theorem c_mo_version (l : Launch) (dC : Nat → ClassId) (dI : Nat → Nat → Nat) (cI cL cZ : ClassId) (b0 b1 b2 b3 b4 b5 b6 b7 b8 b9 b10 b11 b12 b13 b14 b15 b16 b17 b18 b19 : Nat) (th lv pe cu fm nf : Int) (n nc : Nat) (fd fs fl fh ft fc fr tt sh cf ve li : Nat → Int) (kn tg tb dn me cp sp : Nat → Bool) (fo lk : Bool) (hn : n ≤ 48) (hnc : nc ≤ 16) (hft : ∀ s, 0 ≤ ft s ∧ ft s ≤ 3) (hfc : ∀ s, 0 ≤ fc s ∧ fc s ≤ 2) (hsb : ∀ s, 0 ≤ fd s ∧ fd s < 5 ∧ -24 ≤ fs s ∧ fs s ≤ 24 ∧ 0 ≤ fl s ∧ fl s ≤ 96 ∧ 0 ≤ fh s ∧ fh s ≤ 96) (hcb : ∀ c, 0 ≤ fr c ∧ fr c < 5 ∧ 0 ≤ tt c ∧ tt c < 5 ∧ -24 ≤ sh c ∧ sh c ≤ 24) (hve : ∀ p, 0 ≤ ve p ∧ ve p ≤ 100000) (hnf : nf = -1 ∨ nf = 0 ∨ nf = 1) (hlv : 0 ≤ lv ∧ lv ≤ 7) (hcu : -1 ≤ cu ∧ cu < fm) (hpe : 0 ≤ pe ∧ pe ≤ 15) (hfm : 0 ≤ fm ∧ fm ≤ 100) (hcf : ∀ c, 0 ≤ cf c ∧ cf c ≤ 100) (hli : ∀ j, 0 ≤ li j ∧ li j ≤ 2) : Met l y_mo_version (Cond.code y_mo_version prog_8_method_36_code 1 (some .int) :: TB) ({ frames := 0, cells := 0, slots := 0, locals := 0 }) (va_Pc [.ref (b0)] (PW dC dI [(b0, .inr (6, [.int (iI (th)), .int (iI (((n : Nat) : Int))), .ref (b1), .ref (b2), .ref (b3), .ref (b4), .ref (b5), .ref (b6), .ref (b7), .ref (b8), .int (iI (((nc : Nat) : Int))), .ref (b9), .ref (b10), .ref (b11), .ref (b12), .ref (b13), .int (bI (fo)), .int (bI (lk)), .int (iI (lv)), .int (iI (pe)), .int (iI (cu)), .ref (b14), .int (iI (fm)), .ref (b15), .ref (b16), .ref (b17), .ref (b18), .int (iI (nf)), .ref (b19)])), (b1, .inl (cI, 48, .inl (aI (fd)))), (b2, .inl (cI, 48, .inl (aI (fs)))), (b3, .inl (cI, 48, .inl (aI (fl)))), (b4, .inl (cI, 48, .inl (aI (fh)))), (b5, .inl (cZ, 48, .inl (aZ (kn)))), (b6, .inl (cI, 48, .inl (aI (ft)))), (b7, .inl (cZ, 48, .inl (aZ (tg)))), (b8, .inl (cI, 48, .inl (aI (fc)))), (b9, .inl (cI, 16, .inl (aI (fr)))), (b10, .inl (cI, 16, .inl (aI (tt)))), (b11, .inl (cI, 16, .inl (aI (sh)))), (b12, .inl (cZ, 16, .inl (aZ (tb)))), (b13, .inl (cZ, 305, .inl (aZ (dn)))), (b14, .inl (cZ, 21312, .inl (aZ (me)))), (b15, .inl (cZ, 42624, .inl (aZ (cp)))), (b16, .inl (cI, 2, .inl (aI (cf)))), (b17, .inl (cI, 18, .inl (aI (ve)))), (b18, .inl (cZ, 18, .inl (aZ (sp)))), (b19, .inl (cI, 40, .inl (aI (li))))] [(cI, .int), (cL, .long), (cZ, .boolean)])) (k2_QcV (.int (iI (if nf < 0 then 0 else ve (9 * nf.toNat))))) 0 0 (fun _ => False) := by
  refine Met.ofW (cc := prog_8_method_36_code) (maxL := 1) (ret := (some .int)) (by decide) rfl ?_
  intro p e s m args below meth c s₁ B hml hv
  obtain ⟨ha, hP, hK⟩ := hv
  have hx := B.exec
  have hb := B.bytes
  have hr := B.returns
  have htb : ∀ w ∈ TB, w.before args s = true := fun w h => atoms_spec (ws := Cond.code y_mo_version prog_8_method_36_code 1 (some .int) :: TB) B.pre w (List.mem_cons_of_mem _ h)
  have hown : s.vm.findClass "OrganConsoleModel" = some m.cls := findClass_of_methodNamed B.named
  have hlocks := B.notSynchronized
  have hl := lv_entry ([.ref (b0)]) (n := 1) (Nat.le_of_ble_eq_true rfl)
  refine W.eq (g2 := F0 m 0 _ []) (by rw [ha]; exact lg_entry_eq m ([.ref (b0)]) 1) ?_
  generalize (lg_sl ([.ref (b0)]) ++ List.replicate (1 - (lg_sl ([.ref (b0)])).length) Slot.unset).toArray = ls at hl ⊢
  have hl : lv_has ls 1 [(0, .ref (b0))] := hl
  refine lv_aload_n hx hb d_mo_version_0 rfl (lv_at hl 0 rfl) ?_
  refine va_get (D := (dC, dI)) (ci := 6) (v := .int (iI (nf))) (C := "OrganConsoleModel") (T := T_mo) (N := 29) hx hb htb in_mo hown hK hP 0 rfl rfl 27 (by decide) (htb _ tw_768) (fun _ h9 => h9) rfl d_mo_version_1 ?_
  refine xi_if_ge (tgt := 11) hx hb ⟨by omega, by omega⟩ d_mo_version_4 (by decide) (fun u_1 => ?_) (fun u_1 => ?_)
  · skip
    refine lv_aload_n hx hb d_mo_version_11 rfl (lv_at hl 0 rfl) ?_
    refine va_get (D := (dC, dI)) (ci := 6) (v := .ref (b17)) (C := "OrganConsoleModel") (T := T_mo) (N := 29) hx hb htb in_mo hown hK hP 0 rfl rfl 25 (by decide) (htb _ tw_766) (fun _ h9 => h9) rfl d_mo_version_12 ?_
    refine lv_bipush (v := iI (9)) hx hb d_mo_version_15 (by decide +kernel) ?_
    refine lv_aload_n hx hb d_mo_version_17 rfl (lv_at hl 0 rfl) ?_
    refine va_get (D := (dC, dI)) (ci := 6) (v := .int (iI (nf))) (C := "OrganConsoleModel") (T := T_mo) (N := 29) hx hb htb in_mo hown hK hP 0 rfl rfl 27 (by decide) (htb _ tw_768) (fun _ h9 => h9) rfl d_mo_version_18 ?_
    refine xi_mul hx hb d_mo_version_21 ?_
    refine xa_iald hx hb hK hP 17 0 rfl rfl (9 * nf.toNat) (by omega) (by omega) (by decide) d_mo_version_22 ?_
    have q_2 : iI ((ve) (9 * nf.toNat)) = iI (if nf < 0 then 0 else ve (9 * nf.toNat)) := by
      refine congrArg iI ?_; first | rw [if_pos (by omega)] | rw [if_neg (by omega)]
    rw [q_2]
    exact W.iret (v := iI (if nf < 0 then 0 else ve (9 * nf.toNat))) hx hb hr (fun t ht hW => ⟨rfl, ht⟩) t_nil d_mo_version_23
  · skip
    refine lv_iconst (v := iI (0)) hx hb d_mo_version_7 rfl ?_
    refine lv_goto (tgt := 23) hx hb d_mo_version_8 (by decide) ?_
    have q_3 : iI (0) = iI (if nf < 0 then 0 else ve (9 * nf.toNat)) := by
      refine congrArg iI ?_; first | rw [if_pos (by omega)] | rw [if_neg (by omega)]
    rw [q_3]
    exact W.iret (v := iI (if nf < 0 then 0 else ve (9 * nf.toNat))) hx hb hr (fun t ht hW => ⟨rfl, ht⟩) t_nil d_mo_version_23

set_option maxHeartbeats 200000 in
set_option maxRecDepth 100000 in
theorem c_mo_whole (l : Launch) (dC : Nat → ClassId) (dI : Nat → Nat → Nat) (cI cL cZ : ClassId) (b0 b1 b2 b3 b4 b5 b6 b7 b8 b9 b10 b11 b12 b13 b14 b15 b16 b17 b18 b19 : Nat) (th lv pe cu fm nf : Int) (n nc : Nat) (fd fs fl fh ft fc fr tt sh cf ve li : Nat → Int) (kn tg tb dn me cp sp : Nat → Bool) (fo lk : Bool) (hn : n ≤ 48) (hnc : nc ≤ 16) (hft : ∀ s, 0 ≤ ft s ∧ ft s ≤ 3) (hfc : ∀ s, 0 ≤ fc s ∧ fc s ≤ 2) (hsb : ∀ s, 0 ≤ fd s ∧ fd s < 5 ∧ -24 ≤ fs s ∧ fs s ≤ 24 ∧ 0 ≤ fl s ∧ fl s ≤ 96 ∧ 0 ≤ fh s ∧ fh s ≤ 96) (hcb : ∀ c, 0 ≤ fr c ∧ fr c < 5 ∧ 0 ≤ tt c ∧ tt c < 5 ∧ -24 ≤ sh c ∧ sh c ≤ 24) (hve : ∀ p, 0 ≤ ve p ∧ ve p ≤ 100000) (hnf : nf = -1 ∨ nf = 0 ∨ nf = 1) (hlv : 0 ≤ lv ∧ lv ≤ 7) (hcu : -1 ≤ cu ∧ cu < fm) (hpe : 0 ≤ pe ∧ pe ≤ 15) (hfm : 0 ≤ fm ∧ fm ≤ 100) (hcf : ∀ c, 0 ≤ cf c ∧ cf c ≤ 100) (hli : ∀ j, 0 ≤ li j ∧ li j ≤ 2) (c9 : Nat) (z : Int) (hz : z = (c9 : Int)) (hc9 : c9 < 2) : Met l y_mo_whole (Cond.code y_mo_whole prog_8_method_35_code 4 (some .boolean) :: TB) ({ frames := 0, cells := 0, slots := 0, locals := 0 }) (va_Pc [.ref (b0), .int (iI (z))] (PW dC dI [(b0, .inr (6, [.int (iI (th)), .int (iI (((n : Nat) : Int))), .ref (b1), .ref (b2), .ref (b3), .ref (b4), .ref (b5), .ref (b6), .ref (b7), .ref (b8), .int (iI (((nc : Nat) : Int))), .ref (b9), .ref (b10), .ref (b11), .ref (b12), .ref (b13), .int (bI (fo)), .int (bI (lk)), .int (iI (lv)), .int (iI (pe)), .int (iI (cu)), .ref (b14), .int (iI (fm)), .ref (b15), .ref (b16), .ref (b17), .ref (b18), .int (iI (nf)), .ref (b19)])), (b1, .inl (cI, 48, .inl (aI (fd)))), (b2, .inl (cI, 48, .inl (aI (fs)))), (b3, .inl (cI, 48, .inl (aI (fl)))), (b4, .inl (cI, 48, .inl (aI (fh)))), (b5, .inl (cZ, 48, .inl (aZ (kn)))), (b6, .inl (cI, 48, .inl (aI (ft)))), (b7, .inl (cZ, 48, .inl (aZ (tg)))), (b8, .inl (cI, 48, .inl (aI (fc)))), (b9, .inl (cI, 16, .inl (aI (fr)))), (b10, .inl (cI, 16, .inl (aI (tt)))), (b11, .inl (cI, 16, .inl (aI (sh)))), (b12, .inl (cZ, 16, .inl (aZ (tb)))), (b13, .inl (cZ, 305, .inl (aZ (dn)))), (b14, .inl (cZ, 21312, .inl (aZ (me)))), (b15, .inl (cZ, 42624, .inl (aZ (cp)))), (b16, .inl (cI, 2, .inl (aI (cf)))), (b17, .inl (cI, 18, .inl (aI (ve)))), (b18, .inl (cZ, 18, .inl (aZ (sp)))), (b19, .inl (cI, 40, .inl (aI (li))))] [(cI, .int), (cL, .long), (cZ, .boolean)])) (k2_QcV (.int (bI (mwh ve sp c9 9)))) 0 0 (fun _ => False) := by
  refine Met.ofW (cc := prog_8_method_35_code) (maxL := 4) (ret := (some .boolean)) (by decide) rfl ?_
  intro p e s m args below meth c s₁ B hml hv
  obtain ⟨ha, hP, hK⟩ := hv
  have hx := B.exec
  have hb := B.bytes
  have hr := B.returns
  have htb : ∀ w ∈ TB, w.before args s = true := fun w h => atoms_spec (ws := Cond.code y_mo_whole prog_8_method_35_code 4 (some .boolean) :: TB) B.pre w (List.mem_cons_of_mem _ h)
  have hown : s.vm.findClass "OrganConsoleModel" = some m.cls := findClass_of_methodNamed B.named
  have hlocks := B.notSynchronized
  have hl := lv_entry ([.ref (b0), .int (iI (z))]) (n := 4) (Nat.le_of_ble_eq_true rfl)
  refine W.eq (g2 := F0 m 0 _ []) (by rw [ha]; exact lg_entry_eq m ([.ref (b0), .int (iI (z))]) 4) ?_
  generalize (lg_sl ([.ref (b0), .int (iI (z))]) ++ List.replicate (4 - (lg_sl ([.ref (b0), .int (iI (z))])).length) Slot.unset).toArray = ls at hl ⊢
  have hl : lv_has ls 4 [(0, .ref (b0)), (1, .int (iI (z)))] := hl
  refine lv_aload_n hx hb d_mo_whole_0 rfl (lv_at hl 0 rfl) ?_
  refine va_get (D := (dC, dI)) (ci := 6) (v := .ref (b17)) (C := "OrganConsoleModel") (T := T_mo) (N := 29) hx hb htb in_mo hown hK hP 0 rfl rfl 25 (by decide) (htb _ tw_766) (fun _ h9 => h9) rfl d_mo_whole_1 ?_
  refine lv_bipush (v := iI (9)) hx hb d_mo_whole_4 (by decide +kernel) ?_
  refine lv_iload_n hx hb d_mo_whole_6 rfl (lv_at hl 1 rfl) ?_
  refine xi_mul hx hb d_mo_whole_7 ?_
  refine xa_iald hx hb hK hP 17 0 rfl rfl (9 * c9) (by omega) (by omega) (by decide) d_mo_whole_8 ?_
  have h91 := hve (9 * c9)
  refine xi_if_le (tgt := 16) hx hb ⟨by omega, by omega⟩ d_mo_whole_9 (by decide) (fun u_1 => ?_) (fun u_1 => ?_)
  · skip
    refine lv_iconst (v := iI (0)) hx hb d_mo_whole_16 rfl ?_
    refine lv_istore_n hx hb d_mo_whole_17 rfl hl (by decide) rfl (fun ls hl => ?_)
    have hl : lv_has ls 4 [(2, .int (iI (0))), (0, .ref (b0)), (1, .int (iI (z)))] := hl
    refine lv_iconst (v := iI (0)) hx hb d_mo_whole_18 rfl ?_
    refine lv_istore_n hx hb d_mo_whole_19 rfl hl (by decide) rfl (fun ls hl => ?_)
    have hl : lv_has ls 4 [(3, .int (iI (0))), (2, .int (iI (0))), (0, .ref (b0)), (1, .int (iI (z)))] := hl
    have q_2 : iI (0) = bI (mwh ve sp c9 (0)) := by first | exact bo_1 (decide_eq_true (by omega)) | exact bo_0 (decide_eq_false (by omega)) | exact mwh_1 (by assumption) (by assumption) (by assumption) | exact mwh_2 (by assumption) | exact mwh_3 (by assumption) | exact mwh_4 (by assumption)
    have q_3 : iI (0) = iI ((((0) : Nat) : Int)) := congrArg iI (by omega)
    have hl : lv_has ls 4 [(3, .int (iI ((((0) : Nat) : Int)))), (2, .int (bI (mwh ve sp c9 (0)))), (0, .ref (b0)), (1, .int (iI (z)))] := lv_eq9 hl (congr (congrArg List.cons (congrArg (fun z => ((3 : Nat), Value.int z)) q_3)) (congr (congrArg List.cons (congrArg (fun z => ((2 : Nat), Value.int z)) q_2)) (congr (congrArg List.cons (Eq.refl ((0 : Nat), Value.ref (b0)))) (congr (congrArg List.cons (Eq.refl ((1 : Nat), Value.int (iI (z))))) (rfl)))))
    have L20 : ∀ (fu : Nat) (k : Nat), 9 - k < fu → k ≤ 9 → ∀ ls : Array Slot, lv_has ls 4 [(2, .int (bI (mwh ve sp c9 k))), (3, .int (iI (((k : Nat) : Int)))), (0, .ref (b0)), (1, .int (iI (z)))] → W p l e (headSpec (Cond.code y_mo_whole prog_8_method_35_code 4 (some .boolean) :: TB) ({ frames := 0, cells := 0, slots := 0, locals := 0 })).room s m args below meth c s.heap [] 0 0 (MQ below (k2_QcV (.int (bI (mwh ve sp c9 9)))) args s 0 0 (fun _ => False)) (F0 m 20 ls []) := by
      intro fu
      induction fu with
      | zero => intro k hfu; exact absurd hfu (Nat.not_lt_zero _)
      | succ fu ih20 =>
        intro k hfu hk ls hl
        refine lv_iload_n hx hb d_mo_whole_20 rfl (lv_at hl 1 rfl) ?_
        refine lv_bipush (v := iI (9)) hx hb d_mo_whole_21 (by decide +kernel) ?_
        refine xi_icmp_ge (tgt := 79) hx hb ⟨by omega, by omega⟩ ⟨by omega, by omega⟩ d_mo_whole_23 (by decide) (fun u_4 => ?_) (fun u_4 => ?_)
        · skip
          refine lv_iload_n hx hb d_mo_whole_79 rfl (lv_at hl 0 rfl) ?_
          have q_5 : bI (mwh ve sp c9 k) = bI (mwh ve sp c9 9) := by
            have : k = 9 := by omega
            subst this
            rfl
          rw [q_5]
          exact W.zret (ty := .boolean) (v := bI (mwh ve sp c9 9)) hx hb hr (bI_narrow _) (fun t ht hW => ⟨rfl, ht⟩) t_nil d_mo_whole_80
        · skip
          refine lv_iload_n hx hb d_mo_whole_26 rfl (lv_at hl 0 rfl) ?_
          refine xz_if_eq (tgt := 71) hx hb d_mo_whole_27 (by decide) (fun u_6 => ?_) (fun u_6 => ?_)
          · skip
            refine lv_iconst (v := iI (0)) hx hb d_mo_whole_71 rfl ?_
            refine lv_istore_n hx hb d_mo_whole_72 rfl hl (by decide) rfl (fun ls hl => ?_)
            have hl : lv_has ls 4 [(2, .int (iI (0))), (3, .int (iI (((k : Nat) : Int)))), (0, .ref (b0)), (1, .int (iI (z)))] := hl
            refine lv_iinc (k := 1) (v := iI (((k : Nat) : Int) + 1)) hx hb d_mo_whole_73 hl rfl (iI_add _ _) (by decide) rfl (fun ls hl => ?_)
            have hl : lv_has ls 4 [(3, .int (iI (((k : Nat) : Int) + 1))), (2, .int (iI (0))), (0, .ref (b0)), (1, .int (iI (z)))] := hl
            refine lv_goto (tgt := 20) hx hb d_mo_whole_76 (by decide) ?_
            have q_7 : iI (0) = bI (mwh ve sp c9 (k + 1)) := by first | exact bo_1 (decide_eq_true (by omega)) | exact bo_0 (decide_eq_false (by omega)) | exact mwh_1 (by assumption) (by assumption) (by assumption) | exact mwh_2 (by assumption) | exact mwh_3 (by assumption) | exact mwh_4 (by assumption)
            have q_8 : iI (((k : Nat) : Int) + 1) = iI ((((k + 1) : Nat) : Int)) := congrArg iI (by omega)
            have hl : lv_has ls 4 [(3, .int (iI ((((k + 1) : Nat) : Int)))), (2, .int (bI (mwh ve sp c9 (k + 1)))), (0, .ref (b0)), (1, .int (iI (z)))] := lv_eq9 hl (congr (congrArg List.cons (congrArg (fun z => ((3 : Nat), Value.int z)) q_8)) (congr (congrArg List.cons (congrArg (fun z => ((2 : Nat), Value.int z)) q_7)) (congr (congrArg List.cons (Eq.refl ((0 : Nat), Value.ref (b0)))) (congr (congrArg List.cons (Eq.refl ((1 : Nat), Value.int (iI (z))))) (rfl)))))
            exact ih20 (k + 1) (by omega) (by omega) _ (lv_sub hl [1, 0, 2, 3] rfl)
          · skip
            refine lv_aload_n hx hb d_mo_whole_30 rfl (lv_at hl 2 rfl) ?_
            refine va_get (D := (dC, dI)) (ci := 6) (v := .ref (b17)) (C := "OrganConsoleModel") (T := T_mo) (N := 29) hx hb htb in_mo hown hK hP 0 rfl rfl 25 (by decide) (htb _ tw_766) (fun _ h9 => h9) rfl d_mo_whole_31 ?_
            refine lv_bipush (v := iI (9)) hx hb d_mo_whole_34 (by decide +kernel) ?_
            refine lv_iload_n hx hb d_mo_whole_36 rfl (lv_at hl 3 rfl) ?_
            refine xi_mul hx hb d_mo_whole_37 ?_
            refine lv_iload_n hx hb d_mo_whole_38 rfl (lv_at hl 1 rfl) ?_
            refine xi_add hx hb d_mo_whole_39 ?_
            refine xa_iald hx hb hK hP 17 0 rfl rfl (9 * c9 + k) (by omega) (by omega) (by decide) d_mo_whole_40 ?_
            refine lv_aload_n hx hb d_mo_whole_41 rfl (lv_at hl 2 rfl) ?_
            refine va_get (D := (dC, dI)) (ci := 6) (v := .ref (b17)) (C := "OrganConsoleModel") (T := T_mo) (N := 29) hx hb htb in_mo hown hK hP 0 rfl rfl 25 (by decide) (htb _ tw_766) (fun _ h9 => h9) rfl d_mo_whole_42 ?_
            refine lv_bipush (v := iI (9)) hx hb d_mo_whole_45 (by decide +kernel) ?_
            refine lv_iload_n hx hb d_mo_whole_47 rfl (lv_at hl 3 rfl) ?_
            refine xi_mul hx hb d_mo_whole_48 ?_
            refine xa_iald hx hb hK hP 17 0 rfl rfl (9 * c9) (by omega) (by omega) (by decide) d_mo_whole_49 ?_
            have h92 := hve (9 * c9 + k)
            have h93 := hve (9 * c9)
            refine xi_icmp_ne (tgt := 71) hx hb ⟨by omega, by omega⟩ ⟨by omega, by omega⟩ d_mo_whole_50 (by decide) (fun u_9 => ?_) (fun u_9 => ?_)
            · skip
              refine lv_iconst (v := iI (0)) hx hb d_mo_whole_71 rfl ?_
              refine lv_istore_n hx hb d_mo_whole_72 rfl hl (by decide) rfl (fun ls hl => ?_)
              have hl : lv_has ls 4 [(2, .int (iI (0))), (3, .int (iI (((k : Nat) : Int)))), (0, .ref (b0)), (1, .int (iI (z)))] := hl
              refine lv_iinc (k := 1) (v := iI (((k : Nat) : Int) + 1)) hx hb d_mo_whole_73 hl rfl (iI_add _ _) (by decide) rfl (fun ls hl => ?_)
              have hl : lv_has ls 4 [(3, .int (iI (((k : Nat) : Int) + 1))), (2, .int (iI (0))), (0, .ref (b0)), (1, .int (iI (z)))] := hl
              refine lv_goto (tgt := 20) hx hb d_mo_whole_76 (by decide) ?_
              have q_10 : iI (0) = bI (mwh ve sp c9 (k + 1)) := by first | exact bo_1 (decide_eq_true (by omega)) | exact bo_0 (decide_eq_false (by omega)) | exact mwh_1 (by assumption) (by assumption) (by assumption) | exact mwh_2 (by assumption) | exact mwh_3 (by assumption) | exact mwh_4 (by assumption)
              have q_11 : iI (((k : Nat) : Int) + 1) = iI ((((k + 1) : Nat) : Int)) := congrArg iI (by omega)
              have hl : lv_has ls 4 [(3, .int (iI ((((k + 1) : Nat) : Int)))), (2, .int (bI (mwh ve sp c9 (k + 1)))), (0, .ref (b0)), (1, .int (iI (z)))] := lv_eq9 hl (congr (congrArg List.cons (congrArg (fun z => ((3 : Nat), Value.int z)) q_11)) (congr (congrArg List.cons (congrArg (fun z => ((2 : Nat), Value.int z)) q_10)) (congr (congrArg List.cons (Eq.refl ((0 : Nat), Value.ref (b0)))) (congr (congrArg List.cons (Eq.refl ((1 : Nat), Value.int (iI (z))))) (rfl)))))
              exact ih20 (k + 1) (by omega) (by omega) _ (lv_sub hl [1, 0, 2, 3] rfl)
            · skip
              refine lv_aload_n hx hb d_mo_whole_53 rfl (lv_at hl 2 rfl) ?_
              refine va_get (D := (dC, dI)) (ci := 6) (v := .ref (b18)) (C := "OrganConsoleModel") (T := T_mo) (N := 29) hx hb htb in_mo hown hK hP 0 rfl rfl 26 (by decide) (htb _ tw_767) (fun _ h9 => h9) rfl d_mo_whole_54 ?_
              refine lv_bipush (v := iI (9)) hx hb d_mo_whole_57 (by decide +kernel) ?_
              refine lv_iload_n hx hb d_mo_whole_59 rfl (lv_at hl 3 rfl) ?_
              refine xi_mul hx hb d_mo_whole_60 ?_
              refine lv_iload_n hx hb d_mo_whole_61 rfl (lv_at hl 1 rfl) ?_
              refine xi_add hx hb d_mo_whole_62 ?_
              refine xa_zald hx hb hK hP 18 2 rfl rfl (9 * c9 + k) (by omega) (by omega) (by decide) d_mo_whole_63 ?_
              refine xz_if_ne (tgt := 71) hx hb d_mo_whole_64 (by decide) (fun u_12 => ?_) (fun u_12 => ?_)
              · skip
                refine lv_iconst (v := iI (0)) hx hb d_mo_whole_71 rfl ?_
                refine lv_istore_n hx hb d_mo_whole_72 rfl hl (by decide) rfl (fun ls hl => ?_)
                have hl : lv_has ls 4 [(2, .int (iI (0))), (3, .int (iI (((k : Nat) : Int)))), (0, .ref (b0)), (1, .int (iI (z)))] := hl
                refine lv_iinc (k := 1) (v := iI (((k : Nat) : Int) + 1)) hx hb d_mo_whole_73 hl rfl (iI_add _ _) (by decide) rfl (fun ls hl => ?_)
                have hl : lv_has ls 4 [(3, .int (iI (((k : Nat) : Int) + 1))), (2, .int (iI (0))), (0, .ref (b0)), (1, .int (iI (z)))] := hl
                refine lv_goto (tgt := 20) hx hb d_mo_whole_76 (by decide) ?_
                have q_13 : iI (0) = bI (mwh ve sp c9 (k + 1)) := by first | exact bo_1 (decide_eq_true (by omega)) | exact bo_0 (decide_eq_false (by omega)) | exact mwh_1 (by assumption) (by assumption) (by assumption) | exact mwh_2 (by assumption) | exact mwh_3 (by assumption) | exact mwh_4 (by assumption)
                have q_14 : iI (((k : Nat) : Int) + 1) = iI ((((k + 1) : Nat) : Int)) := congrArg iI (by omega)
                have hl : lv_has ls 4 [(3, .int (iI ((((k + 1) : Nat) : Int)))), (2, .int (bI (mwh ve sp c9 (k + 1)))), (0, .ref (b0)), (1, .int (iI (z)))] := lv_eq9 hl (congr (congrArg List.cons (congrArg (fun z => ((3 : Nat), Value.int z)) q_14)) (congr (congrArg List.cons (congrArg (fun z => ((2 : Nat), Value.int z)) q_13)) (congr (congrArg List.cons (Eq.refl ((0 : Nat), Value.ref (b0)))) (congr (congrArg List.cons (Eq.refl ((1 : Nat), Value.int (iI (z))))) (rfl)))))
                exact ih20 (k + 1) (by omega) (by omega) _ (lv_sub hl [1, 0, 2, 3] rfl)
              · skip
                refine lv_iconst (v := iI (1)) hx hb d_mo_whole_67 rfl ?_
                refine lv_goto (tgt := 72) hx hb d_mo_whole_68 (by decide) ?_
                refine lv_istore_n hx hb d_mo_whole_72 rfl hl (by decide) rfl (fun ls hl => ?_)
                have hl : lv_has ls 4 [(2, .int (iI (1))), (3, .int (iI (((k : Nat) : Int)))), (0, .ref (b0)), (1, .int (iI (z)))] := hl
                refine lv_iinc (k := 1) (v := iI (((k : Nat) : Int) + 1)) hx hb d_mo_whole_73 hl rfl (iI_add _ _) (by decide) rfl (fun ls hl => ?_)
                have hl : lv_has ls 4 [(3, .int (iI (((k : Nat) : Int) + 1))), (2, .int (iI (1))), (0, .ref (b0)), (1, .int (iI (z)))] := hl
                refine lv_goto (tgt := 20) hx hb d_mo_whole_76 (by decide) ?_
                have q_15 : iI (1) = bI (mwh ve sp c9 (k + 1)) := by first | exact bo_1 (decide_eq_true (by omega)) | exact bo_0 (decide_eq_false (by omega)) | exact mwh_1 (by assumption) (by assumption) (by assumption) | exact mwh_2 (by assumption) | exact mwh_3 (by assumption) | exact mwh_4 (by assumption)
                have q_16 : iI (((k : Nat) : Int) + 1) = iI ((((k + 1) : Nat) : Int)) := congrArg iI (by omega)
                have hl : lv_has ls 4 [(3, .int (iI ((((k + 1) : Nat) : Int)))), (2, .int (bI (mwh ve sp c9 (k + 1)))), (0, .ref (b0)), (1, .int (iI (z)))] := lv_eq9 hl (congr (congrArg List.cons (congrArg (fun z => ((3 : Nat), Value.int z)) q_16)) (congr (congrArg List.cons (congrArg (fun z => ((2 : Nat), Value.int z)) q_15)) (congr (congrArg List.cons (Eq.refl ((0 : Nat), Value.ref (b0)))) (congr (congrArg List.cons (Eq.refl ((1 : Nat), Value.int (iI (z))))) (rfl)))))
                exact ih20 (k + 1) (by omega) (by omega) _ (lv_sub hl [1, 0, 2, 3] rfl)
    exact L20 ((9 - (0)) + 1) (0) (Nat.lt_succ_self _) (by omega) _ (lv_sub hl [1, 0, 2, 3] rfl)
  · skip
    refine lv_iconst (v := iI (1)) hx hb d_mo_whole_12 rfl ?_
    refine lv_goto (tgt := 17) hx hb d_mo_whole_13 (by decide) ?_
    refine lv_istore_n hx hb d_mo_whole_17 rfl hl (by decide) rfl (fun ls hl => ?_)
    have hl : lv_has ls 4 [(2, .int (iI (1))), (0, .ref (b0)), (1, .int (iI (z)))] := hl
    refine lv_iconst (v := iI (0)) hx hb d_mo_whole_18 rfl ?_
    refine lv_istore_n hx hb d_mo_whole_19 rfl hl (by decide) rfl (fun ls hl => ?_)
    have hl : lv_has ls 4 [(3, .int (iI (0))), (2, .int (iI (1))), (0, .ref (b0)), (1, .int (iI (z)))] := hl
    have q_17 : iI (1) = bI (mwh ve sp c9 (0)) := by first | exact bo_1 (decide_eq_true (by omega)) | exact bo_0 (decide_eq_false (by omega)) | exact mwh_1 (by assumption) (by assumption) (by assumption) | exact mwh_2 (by assumption) | exact mwh_3 (by assumption) | exact mwh_4 (by assumption)
    have q_18 : iI (0) = iI ((((0) : Nat) : Int)) := congrArg iI (by omega)
    have hl : lv_has ls 4 [(3, .int (iI ((((0) : Nat) : Int)))), (2, .int (bI (mwh ve sp c9 (0)))), (0, .ref (b0)), (1, .int (iI (z)))] := lv_eq9 hl (congr (congrArg List.cons (congrArg (fun z => ((3 : Nat), Value.int z)) q_18)) (congr (congrArg List.cons (congrArg (fun z => ((2 : Nat), Value.int z)) q_17)) (congr (congrArg List.cons (Eq.refl ((0 : Nat), Value.ref (b0)))) (congr (congrArg List.cons (Eq.refl ((1 : Nat), Value.int (iI (z))))) (rfl)))))
    have L20 : ∀ (fu : Nat) (k : Nat), 9 - k < fu → k ≤ 9 → ∀ ls : Array Slot, lv_has ls 4 [(2, .int (bI (mwh ve sp c9 k))), (3, .int (iI (((k : Nat) : Int)))), (0, .ref (b0)), (1, .int (iI (z)))] → W p l e (headSpec (Cond.code y_mo_whole prog_8_method_35_code 4 (some .boolean) :: TB) ({ frames := 0, cells := 0, slots := 0, locals := 0 })).room s m args below meth c s.heap [] 0 0 (MQ below (k2_QcV (.int (bI (mwh ve sp c9 9)))) args s 0 0 (fun _ => False)) (F0 m 20 ls []) := by
      intro fu
      induction fu with
      | zero => intro k hfu; exact absurd hfu (Nat.not_lt_zero _)
      | succ fu ih20 =>
        intro k hfu hk ls hl
        refine lv_iload_n hx hb d_mo_whole_20 rfl (lv_at hl 1 rfl) ?_
        refine lv_bipush (v := iI (9)) hx hb d_mo_whole_21 (by decide +kernel) ?_
        refine xi_icmp_ge (tgt := 79) hx hb ⟨by omega, by omega⟩ ⟨by omega, by omega⟩ d_mo_whole_23 (by decide) (fun u_19 => ?_) (fun u_19 => ?_)
        · skip
          refine lv_iload_n hx hb d_mo_whole_79 rfl (lv_at hl 0 rfl) ?_
          have q_20 : bI (mwh ve sp c9 k) = bI (mwh ve sp c9 9) := by
            have : k = 9 := by omega
            subst this
            rfl
          rw [q_20]
          exact W.zret (ty := .boolean) (v := bI (mwh ve sp c9 9)) hx hb hr (bI_narrow _) (fun t ht hW => ⟨rfl, ht⟩) t_nil d_mo_whole_80
        · skip
          refine lv_iload_n hx hb d_mo_whole_26 rfl (lv_at hl 0 rfl) ?_
          refine xz_if_eq (tgt := 71) hx hb d_mo_whole_27 (by decide) (fun u_21 => ?_) (fun u_21 => ?_)
          · skip
            refine lv_iconst (v := iI (0)) hx hb d_mo_whole_71 rfl ?_
            refine lv_istore_n hx hb d_mo_whole_72 rfl hl (by decide) rfl (fun ls hl => ?_)
            have hl : lv_has ls 4 [(2, .int (iI (0))), (3, .int (iI (((k : Nat) : Int)))), (0, .ref (b0)), (1, .int (iI (z)))] := hl
            refine lv_iinc (k := 1) (v := iI (((k : Nat) : Int) + 1)) hx hb d_mo_whole_73 hl rfl (iI_add _ _) (by decide) rfl (fun ls hl => ?_)
            have hl : lv_has ls 4 [(3, .int (iI (((k : Nat) : Int) + 1))), (2, .int (iI (0))), (0, .ref (b0)), (1, .int (iI (z)))] := hl
            refine lv_goto (tgt := 20) hx hb d_mo_whole_76 (by decide) ?_
            have q_22 : iI (0) = bI (mwh ve sp c9 (k + 1)) := by first | exact bo_1 (decide_eq_true (by omega)) | exact bo_0 (decide_eq_false (by omega)) | exact mwh_1 (by assumption) (by assumption) (by assumption) | exact mwh_2 (by assumption) | exact mwh_3 (by assumption) | exact mwh_4 (by assumption)
            have q_23 : iI (((k : Nat) : Int) + 1) = iI ((((k + 1) : Nat) : Int)) := congrArg iI (by omega)
            have hl : lv_has ls 4 [(3, .int (iI ((((k + 1) : Nat) : Int)))), (2, .int (bI (mwh ve sp c9 (k + 1)))), (0, .ref (b0)), (1, .int (iI (z)))] := lv_eq9 hl (congr (congrArg List.cons (congrArg (fun z => ((3 : Nat), Value.int z)) q_23)) (congr (congrArg List.cons (congrArg (fun z => ((2 : Nat), Value.int z)) q_22)) (congr (congrArg List.cons (Eq.refl ((0 : Nat), Value.ref (b0)))) (congr (congrArg List.cons (Eq.refl ((1 : Nat), Value.int (iI (z))))) (rfl)))))
            exact ih20 (k + 1) (by omega) (by omega) _ (lv_sub hl [1, 0, 2, 3] rfl)
          · skip
            refine lv_aload_n hx hb d_mo_whole_30 rfl (lv_at hl 2 rfl) ?_
            refine va_get (D := (dC, dI)) (ci := 6) (v := .ref (b17)) (C := "OrganConsoleModel") (T := T_mo) (N := 29) hx hb htb in_mo hown hK hP 0 rfl rfl 25 (by decide) (htb _ tw_766) (fun _ h9 => h9) rfl d_mo_whole_31 ?_
            refine lv_bipush (v := iI (9)) hx hb d_mo_whole_34 (by decide +kernel) ?_
            refine lv_iload_n hx hb d_mo_whole_36 rfl (lv_at hl 3 rfl) ?_
            refine xi_mul hx hb d_mo_whole_37 ?_
            refine lv_iload_n hx hb d_mo_whole_38 rfl (lv_at hl 1 rfl) ?_
            refine xi_add hx hb d_mo_whole_39 ?_
            refine xa_iald hx hb hK hP 17 0 rfl rfl (9 * c9 + k) (by omega) (by omega) (by decide) d_mo_whole_40 ?_
            refine lv_aload_n hx hb d_mo_whole_41 rfl (lv_at hl 2 rfl) ?_
            refine va_get (D := (dC, dI)) (ci := 6) (v := .ref (b17)) (C := "OrganConsoleModel") (T := T_mo) (N := 29) hx hb htb in_mo hown hK hP 0 rfl rfl 25 (by decide) (htb _ tw_766) (fun _ h9 => h9) rfl d_mo_whole_42 ?_
            refine lv_bipush (v := iI (9)) hx hb d_mo_whole_45 (by decide +kernel) ?_
            refine lv_iload_n hx hb d_mo_whole_47 rfl (lv_at hl 3 rfl) ?_
            refine xi_mul hx hb d_mo_whole_48 ?_
            refine xa_iald hx hb hK hP 17 0 rfl rfl (9 * c9) (by omega) (by omega) (by decide) d_mo_whole_49 ?_
            have h92 := hve (9 * c9 + k)
            have h93 := hve (9 * c9)
            refine xi_icmp_ne (tgt := 71) hx hb ⟨by omega, by omega⟩ ⟨by omega, by omega⟩ d_mo_whole_50 (by decide) (fun u_24 => ?_) (fun u_24 => ?_)
            · skip
              refine lv_iconst (v := iI (0)) hx hb d_mo_whole_71 rfl ?_
              refine lv_istore_n hx hb d_mo_whole_72 rfl hl (by decide) rfl (fun ls hl => ?_)
              have hl : lv_has ls 4 [(2, .int (iI (0))), (3, .int (iI (((k : Nat) : Int)))), (0, .ref (b0)), (1, .int (iI (z)))] := hl
              refine lv_iinc (k := 1) (v := iI (((k : Nat) : Int) + 1)) hx hb d_mo_whole_73 hl rfl (iI_add _ _) (by decide) rfl (fun ls hl => ?_)
              have hl : lv_has ls 4 [(3, .int (iI (((k : Nat) : Int) + 1))), (2, .int (iI (0))), (0, .ref (b0)), (1, .int (iI (z)))] := hl
              refine lv_goto (tgt := 20) hx hb d_mo_whole_76 (by decide) ?_
              have q_25 : iI (0) = bI (mwh ve sp c9 (k + 1)) := by first | exact bo_1 (decide_eq_true (by omega)) | exact bo_0 (decide_eq_false (by omega)) | exact mwh_1 (by assumption) (by assumption) (by assumption) | exact mwh_2 (by assumption) | exact mwh_3 (by assumption) | exact mwh_4 (by assumption)
              have q_26 : iI (((k : Nat) : Int) + 1) = iI ((((k + 1) : Nat) : Int)) := congrArg iI (by omega)
              have hl : lv_has ls 4 [(3, .int (iI ((((k + 1) : Nat) : Int)))), (2, .int (bI (mwh ve sp c9 (k + 1)))), (0, .ref (b0)), (1, .int (iI (z)))] := lv_eq9 hl (congr (congrArg List.cons (congrArg (fun z => ((3 : Nat), Value.int z)) q_26)) (congr (congrArg List.cons (congrArg (fun z => ((2 : Nat), Value.int z)) q_25)) (congr (congrArg List.cons (Eq.refl ((0 : Nat), Value.ref (b0)))) (congr (congrArg List.cons (Eq.refl ((1 : Nat), Value.int (iI (z))))) (rfl)))))
              exact ih20 (k + 1) (by omega) (by omega) _ (lv_sub hl [1, 0, 2, 3] rfl)
            · skip
              refine lv_aload_n hx hb d_mo_whole_53 rfl (lv_at hl 2 rfl) ?_
              refine va_get (D := (dC, dI)) (ci := 6) (v := .ref (b18)) (C := "OrganConsoleModel") (T := T_mo) (N := 29) hx hb htb in_mo hown hK hP 0 rfl rfl 26 (by decide) (htb _ tw_767) (fun _ h9 => h9) rfl d_mo_whole_54 ?_
              refine lv_bipush (v := iI (9)) hx hb d_mo_whole_57 (by decide +kernel) ?_
              refine lv_iload_n hx hb d_mo_whole_59 rfl (lv_at hl 3 rfl) ?_
              refine xi_mul hx hb d_mo_whole_60 ?_
              refine lv_iload_n hx hb d_mo_whole_61 rfl (lv_at hl 1 rfl) ?_
              refine xi_add hx hb d_mo_whole_62 ?_
              refine xa_zald hx hb hK hP 18 2 rfl rfl (9 * c9 + k) (by omega) (by omega) (by decide) d_mo_whole_63 ?_
              refine xz_if_ne (tgt := 71) hx hb d_mo_whole_64 (by decide) (fun u_27 => ?_) (fun u_27 => ?_)
              · skip
                refine lv_iconst (v := iI (0)) hx hb d_mo_whole_71 rfl ?_
                refine lv_istore_n hx hb d_mo_whole_72 rfl hl (by decide) rfl (fun ls hl => ?_)
                have hl : lv_has ls 4 [(2, .int (iI (0))), (3, .int (iI (((k : Nat) : Int)))), (0, .ref (b0)), (1, .int (iI (z)))] := hl
                refine lv_iinc (k := 1) (v := iI (((k : Nat) : Int) + 1)) hx hb d_mo_whole_73 hl rfl (iI_add _ _) (by decide) rfl (fun ls hl => ?_)
                have hl : lv_has ls 4 [(3, .int (iI (((k : Nat) : Int) + 1))), (2, .int (iI (0))), (0, .ref (b0)), (1, .int (iI (z)))] := hl
                refine lv_goto (tgt := 20) hx hb d_mo_whole_76 (by decide) ?_
                have q_28 : iI (0) = bI (mwh ve sp c9 (k + 1)) := by first | exact bo_1 (decide_eq_true (by omega)) | exact bo_0 (decide_eq_false (by omega)) | exact mwh_1 (by assumption) (by assumption) (by assumption) | exact mwh_2 (by assumption) | exact mwh_3 (by assumption) | exact mwh_4 (by assumption)
                have q_29 : iI (((k : Nat) : Int) + 1) = iI ((((k + 1) : Nat) : Int)) := congrArg iI (by omega)
                have hl : lv_has ls 4 [(3, .int (iI ((((k + 1) : Nat) : Int)))), (2, .int (bI (mwh ve sp c9 (k + 1)))), (0, .ref (b0)), (1, .int (iI (z)))] := lv_eq9 hl (congr (congrArg List.cons (congrArg (fun z => ((3 : Nat), Value.int z)) q_29)) (congr (congrArg List.cons (congrArg (fun z => ((2 : Nat), Value.int z)) q_28)) (congr (congrArg List.cons (Eq.refl ((0 : Nat), Value.ref (b0)))) (congr (congrArg List.cons (Eq.refl ((1 : Nat), Value.int (iI (z))))) (rfl)))))
                exact ih20 (k + 1) (by omega) (by omega) _ (lv_sub hl [1, 0, 2, 3] rfl)
              · skip
                refine lv_iconst (v := iI (1)) hx hb d_mo_whole_67 rfl ?_
                refine lv_goto (tgt := 72) hx hb d_mo_whole_68 (by decide) ?_
                refine lv_istore_n hx hb d_mo_whole_72 rfl hl (by decide) rfl (fun ls hl => ?_)
                have hl : lv_has ls 4 [(2, .int (iI (1))), (3, .int (iI (((k : Nat) : Int)))), (0, .ref (b0)), (1, .int (iI (z)))] := hl
                refine lv_iinc (k := 1) (v := iI (((k : Nat) : Int) + 1)) hx hb d_mo_whole_73 hl rfl (iI_add _ _) (by decide) rfl (fun ls hl => ?_)
                have hl : lv_has ls 4 [(3, .int (iI (((k : Nat) : Int) + 1))), (2, .int (iI (1))), (0, .ref (b0)), (1, .int (iI (z)))] := hl
                refine lv_goto (tgt := 20) hx hb d_mo_whole_76 (by decide) ?_
                have q_30 : iI (1) = bI (mwh ve sp c9 (k + 1)) := by first | exact bo_1 (decide_eq_true (by omega)) | exact bo_0 (decide_eq_false (by omega)) | exact mwh_1 (by assumption) (by assumption) (by assumption) | exact mwh_2 (by assumption) | exact mwh_3 (by assumption) | exact mwh_4 (by assumption)
                have q_31 : iI (((k : Nat) : Int) + 1) = iI ((((k + 1) : Nat) : Int)) := congrArg iI (by omega)
                have hl : lv_has ls 4 [(3, .int (iI ((((k + 1) : Nat) : Int)))), (2, .int (bI (mwh ve sp c9 (k + 1)))), (0, .ref (b0)), (1, .int (iI (z)))] := lv_eq9 hl (congr (congrArg List.cons (congrArg (fun z => ((3 : Nat), Value.int z)) q_31)) (congr (congrArg List.cons (congrArg (fun z => ((2 : Nat), Value.int z)) q_30)) (congr (congrArg List.cons (Eq.refl ((0 : Nat), Value.ref (b0)))) (congr (congrArg List.cons (Eq.refl ((1 : Nat), Value.int (iI (z))))) (rfl)))))
                exact ih20 (k + 1) (by omega) (by omega) _ (lv_sub hl [1, 0, 2, 3] rfl)
    exact L20 ((9 - (0)) + 1) (0) (Nat.lt_succ_self _) (by omega) _ (lv_sub hl [1, 0, 2, 3] rfl)

