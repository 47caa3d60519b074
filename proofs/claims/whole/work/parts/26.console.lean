/-! the console's own reading methods -/
theorem lku2 {o1 o2 d k : Int} (h1 : ¬ (0 : Int) = k) (h2 : ¬ (1 : Int) = k) : Op.lookupswitch.offset [(0, o1), (1, o2)] d k = d := by
  show (if (0 : Int) = k then o1 else if (1 : Int) = k then o2 else d) = d
  rw [if_neg h1, if_neg h2]
def pis (z fm : Int) : Int := if z = 0 then 16 else if z = 1 then 25 else if z = 2 then fm else 0
def wis (z : Int) (n : Nat) : Int := if z = 0 then 40 else if z = 1 then (n : Int) else 0
def rwo (lv z q : Int) : Int := if z = 0 then lv * 16 + q else if z = 1 then 128 + lv * 25 + q else 328 + q
def sco (go : Nat → Nat → Bool) (n : Nat) (z q : Int) : Nat → Bool := if z = 1 then go (q / 5).toNat else fun j => decide (j < n)
def spk (fo : Bool) (n : Nat) (kn : Nat → Bool) (row : Nat → Nat → Bool) (pe : Int) : Nat → Bool := if fo = true then fun j => decide (j < n) else fun j => kn j || su row pe.toNat j
def wpi (g : Nat → Nat → Bool) (fr tt sh : Nat → Int) (tb : Nat → Bool) (nc : Nat) (fd fs fl fh : Nat → Int) (k : Nat) : Nat := rb g fr tt sh tb nc (fd k) (fl k - fs k) (fh k - fs k)
def opi (f : Nat → Bool) (w : Nat → Nat) : Nat → Nat
  | 0 => 0
  | k + 1 => opi f w k + (if f k = true then w k else 0)
theorem opi_t {f : Nat → Bool} {w : Nat → Nat} {k : Nat} (h : f k = true) : opi f w (k + 1) = opi f w k + w k := by show opi f w k + _ = _; rw [if_pos h]
theorem opi_f {f : Nat → Bool} {w : Nat → Nat} {k : Nat} (h : f k = false) : opi f w (k + 1) = opi f w k := by show opi f w k + _ = _; rw [if_neg (by rw [h]; decide)]; rfl
theorem opi_le {f : Nat → Bool} {w : Nat → Nat} (h : ∀ k, w k ≤ 128) : ∀ k, opi f w k ≤ 128 * k
  | 0 => Nat.le_refl _
  | k + 1 => by
    have a := opi_le (f := f) h k
    have b := h k
    show opi f w k + _ ≤ _
    split <;> omega
theorem rb_le (g : Nat → Nat → Bool) (fr tt sh : Nat → Int) (tb : Nat → Bool) (nc : Nat) (d a b : Int) : rb g fr tt sh tb nc d a b ≤ 128 := by
  unfold rb
  have h1 := cnt_le (fun j => rc g fr tt sh tb d 0 nc j && spn a b 0 j) 64
  have h2 := cnt_le (fun j => rc g fr tt sh tb d 1 nc j && spn a b 1 j) 64
  omega
theorem ff_first {f : Nat → Int} : ∀ {n k : Nat}, k < n → (∀ j, j < k → f j = 0) → ¬ f k = 0 → ff f n = (k : Int)
  | 0, k, h, _, _ => absurd h (Nat.not_lt_zero k)
  | n + 1, 0, _, _, h3 => by show (if f 0 = 0 then _ else (0 : Int)) = _; rw [if_neg h3]; rfl
  | n + 1, k + 1, h, h2, h3 => by
    have e := ff_first (f := fun j => f (j + 1)) (n := n) (k := k) (by omega) (fun j hj => h2 (j + 1) (by omega)) h3
    show (if f 0 = 0 then (if ff (fun j => f (j + 1)) n = -1 then -1 else ff (fun j => f (j + 1)) n + 1) else (0 : Int)) = _
    rw [if_pos (h2 0 (by omega)), e, if_neg (by omega)]
    omega
theorem ff_none {f : Nat → Int} : ∀ {n : Nat}, (∀ j, j < n → f j = 0) → ff f n = -1
  | 0, _ => rfl
  | n + 1, h => by
    have e := ff_none (f := fun j => f (j + 1)) (n := n) (fun j hj => h (j + 1) (by omega))
    show (if f 0 = 0 then (if ff (fun j => f (j + 1)) n = -1 then -1 else ff (fun j => f (j + 1)) n + 1) else (0 : Int)) = _
    rw [if_pos (h 0 (by omega)), if_pos e]

set_option maxHeartbeats 200000 in
set_option maxRecDepth 100000 in
theorem c_oc_firstFaulty (l : Launch) (dC : Nat → ClassId) (dI : Nat → Nat → Nat) (cI cL cZ : ClassId) (a0 N n9 : Nat) (f : Nat → Int) (h31 : N < 2 ^ 31) (hn9 : n9 ≤ N) (hf : ∀ j, 0 ≤ f j ∧ f j ≤ 2) : Met l y_oc_firstFaulty (Cond.code y_oc_firstFaulty prog_1_method_42_code 3 (some .int) :: TB) ({ frames := 0, cells := 0, slots := 0, locals := 0 }) (va_Pc [.ref (a0), .int (iI (((n9 : Nat) : Int)))] (PW dC dI [(a0, .inl (cI, N, .inl (aI (f))))] [(cI, .int), (cL, .long), (cZ, .boolean)])) (k2_QcV (.int (iI (ff f n9)))) 0 0 (fun _ => False) := by
  refine Met.ofW (cc := prog_1_method_42_code) (maxL := 3) (ret := (some .int)) (by decide) rfl ?_
  intro p e s m args below meth c s₁ B hml hv
  obtain ⟨ha, hP, hK⟩ := hv
  have hx := B.exec
  have hb := B.bytes
  have hr := B.returns
  have htb : ∀ w ∈ TB, w.before args s = true := fun w h => atoms_spec (ws := Cond.code y_oc_firstFaulty prog_1_method_42_code 3 (some .int) :: TB) B.pre w (List.mem_cons_of_mem _ h)
  have hown : s.vm.findClass "OrganConsole" = some m.cls := findClass_of_methodNamed B.named
  have hlocks := B.notSynchronized
  have hl := lv_entry ([.ref (a0), .int (iI (((n9 : Nat) : Int)))]) (n := 3) (Nat.le_of_ble_eq_true rfl)
  refine W.eq (g2 := F0 m 0 _ []) (by rw [ha]; exact lg_entry_eq m ([.ref (a0), .int (iI (((n9 : Nat) : Int)))]) 3) ?_
  generalize (lg_sl ([.ref (a0), .int (iI (((n9 : Nat) : Int)))]) ++ List.replicate (3 - (lg_sl ([.ref (a0), .int (iI (((n9 : Nat) : Int)))])).length) Slot.unset).toArray = ls at hl ⊢
  have hl : lv_has ls 3 [(0, .ref (a0)), (1, .int (iI (((n9 : Nat) : Int))))] := hl
  refine lv_iconst (v := iI (0)) hx hb d_oc_firstFaulty_0 rfl ?_
  refine lv_istore_n hx hb d_oc_firstFaulty_1 rfl hl (by decide) rfl (fun ls hl => ?_)
  have hl : lv_has ls 3 [(2, .int (iI (0))), (0, .ref (a0)), (1, .int (iI (((n9 : Nat) : Int))))] := hl
  have q_1 : iI (0) = iI ((((0) : Nat) : Int)) := congrArg iI (by omega)
  have hl : lv_has ls 3 [(2, .int (iI ((((0) : Nat) : Int)))), (0, .ref (a0)), (1, .int (iI (((n9 : Nat) : Int))))] := lv_eq9 hl (congr (congrArg List.cons (congrArg (fun z => ((2 : Nat), Value.int z)) q_1)) (congr (congrArg List.cons (Eq.refl ((0 : Nat), Value.ref (a0)))) (congr (congrArg List.cons (Eq.refl ((1 : Nat), Value.int (iI (((n9 : Nat) : Int)))))) (rfl))))
  have L2 : ∀ (fu : Nat) (k : Nat), n9 - k < fu → k ≤ n9 → (∀ j, j < k → f j = 0) → ∀ ls : Array Slot, lv_has ls 3 [(2, .int (iI (((k : Nat) : Int)))), (0, .ref (a0)), (1, .int (iI (((n9 : Nat) : Int))))] → W p l e (headSpec (Cond.code y_oc_firstFaulty prog_1_method_42_code 3 (some .int) :: TB) ({ frames := 0, cells := 0, slots := 0, locals := 0 })).room s m args below meth c s.heap [] 0 0 (MQ below (k2_QcV (.int (iI (ff f n9)))) args s 0 0 (fun _ => False)) (F0 m 2 ls []) := by
    intro fu
    induction fu with
    | zero => intro k hfu; exact absurd hfu (Nat.not_lt_zero _)
    | succ fu ih2 =>
      intro k hfu hk hall ls hl
      refine lv_iload_n hx hb d_oc_firstFaulty_2 rfl (lv_at hl 0 rfl) ?_
      refine lv_iload_n hx hb d_oc_firstFaulty_3 rfl (lv_at hl 2 rfl) ?_
      refine xi_icmp_ge (tgt := 21) hx hb ⟨by omega, by omega⟩ ⟨by omega, by omega⟩ d_oc_firstFaulty_4 (by decide) (fun u_2 => ?_) (fun u_2 => ?_)
      · skip
        refine lv_iconst (v := iI (-1)) hx hb d_oc_firstFaulty_21 rfl ?_
        have q_3 : iI ((-1)) = iI (ff f n9) := by
          rw [ff_none (fun j hj => hall j (by omega))]
        rw [q_3]
        exact W.iret (v := iI (ff f n9)) hx hb hr (fun t ht hW => ⟨rfl, ht⟩) t_nil d_oc_firstFaulty_22
      · skip
        refine lv_aload_n hx hb d_oc_firstFaulty_7 rfl (lv_at hl 1 rfl) ?_
        refine lv_iload_n hx hb d_oc_firstFaulty_8 rfl (lv_at hl 0 rfl) ?_
        have hfk := hf k
        refine xa_iald hx hb hK hP 0 0 rfl rfl (k) (by omega) (by omega) (by omega) d_oc_firstFaulty_9 ?_
        refine xi_if_eq (tgt := 15) hx hb ⟨by omega, by omega⟩ d_oc_firstFaulty_10 (by decide) (fun u_4 => ?_) (fun u_4 => ?_)
        · skip
          refine lv_iinc (k := 0) (v := iI (((k : Nat) : Int) + 1)) hx hb d_oc_firstFaulty_15 hl rfl (iI_add _ _) (by decide) rfl (fun ls hl => ?_)
          have hl : lv_has ls 3 [(2, .int (iI (((k : Nat) : Int) + 1))), (0, .ref (a0)), (1, .int (iI (((n9 : Nat) : Int))))] := hl
          refine lv_goto (tgt := 2) hx hb d_oc_firstFaulty_18 (by decide) ?_
          have q_5 : iI (((k : Nat) : Int) + 1) = iI ((((k + 1) : Nat) : Int)) := congrArg iI (by omega)
          have hl : lv_has ls 3 [(2, .int (iI ((((k + 1) : Nat) : Int)))), (0, .ref (a0)), (1, .int (iI (((n9 : Nat) : Int))))] := lv_eq9 hl (congr (congrArg List.cons (congrArg (fun z => ((2 : Nat), Value.int z)) q_5)) (congr (congrArg List.cons (Eq.refl ((0 : Nat), Value.ref (a0)))) (congr (congrArg List.cons (Eq.refl ((1 : Nat), Value.int (iI (((n9 : Nat) : Int)))))) (rfl))))
          exact ih2 (k + 1) (by omega) (by omega) (fun j hj => by by_cases h : j = k; (subst h; assumption); exact hall j (by omega)) _ (lv_sub hl [0, 1, 2] rfl)
        · skip
          refine lv_iload_n hx hb d_oc_firstFaulty_13 rfl (lv_at hl 0 rfl) ?_
          have q_6 : iI (((k : Nat) : Int)) = iI (ff f n9) := by
            rw [ff_first (by omega) hall (by assumption)]
          rw [q_6]
          exact W.iret (v := iI (ff f n9)) hx hb hr (fun t ht hW => ⟨rfl, ht⟩) t_nil d_oc_firstFaulty_14
  exact L2 ((n9 - (0)) + 1) (0) (Nat.lt_succ_self _) (Nat.zero_le _) (fun j hj => absurd hj (Nat.not_lt_zero j)) _ (lv_sub hl [0, 1, 2] rfl)

set_option maxHeartbeats 200000 in
set_option maxRecDepth 100000 in
theorem c_oc_pistonsOf (l : Launch) (dC : Nat → ClassId) (dI : Nat → Nat → Nat) (cI cL cZ : ClassId) (o0 l0 : Nat) (lv cu pe : Int) (lk fo : Bool) (li : Nat → Int) (k0 k1 k2 k3 k4 : Nat) (g : Nat → Nat → Bool) (fr tt sh : Nat → Int) (nc : Nat) (tb : Nat → Bool) (hok : kwOk g fr tt sh nc) (s0 s1 s2 s3 s4 s5 s6 s7 : Nat) (fd fs fl fh ft fc : Nat → Int) (go : Nat → Nat → Bool) (n : Nat) (kn : Nat → Bool) (hn : n ≤ 48) (hft : ∀ s, 0 ≤ ft s ∧ ft s ≤ 3) (hfc : ∀ s, 0 ≤ fc s ∧ fc s ≤ 2) (hsb : ∀ s, 0 ≤ fd s ∧ fd s < 5 ∧ -24 ≤ fs s ∧ fs s ≤ 24 ∧ 0 ≤ fl s ∧ fl s ≤ 96 ∧ 0 ≤ fh s ∧ fh s ≤ 96) (m0 m1 : Nat) (row : Nat → Nat → Bool) (fm : Int) (r0 : Nat) (nf : Int) (c0 c1 c2 c3 c4 : Nat) (fv : Nat → Int) (fz : Nat → Bool) (rw9 : Nat → Nat → Bool) (fw : Int) (d0 d1 d2 d3 d4 : Nat) (gw : Nat → Int) (gz : Nat → Bool) (rx9 : Nat → Nat → Bool) (fx : Int) (hnf : nf = -1 ∨ nf = 0 ∨ nf = 1) (hv : ∀ p, 0 ≤ fv p ∧ fv p ≤ 100000) (hgw : ∀ p, 0 ≤ gw p ∧ gw p ≤ 100000) (hlv : 0 ≤ lv ∧ lv ≤ 7) (hcu : -1 ≤ cu ∧ cu < fm) (hpe : 0 ≤ pe ∧ pe ≤ 15) (hfm : 0 ≤ fm ∧ fm ≤ 100) (hli : ∀ j, 0 ≤ li j ∧ li j ≤ 2) (z : Int) (hz : inI z) : Met l y_oc_pistonsOf (Cond.code y_oc_pistonsOf prog_1_method_33_code 2 (some .int) :: TB) ({ frames := 0, cells := 0, slots := 0, locals := 0 }) (va_Pc [.ref (o0), .int (iI (z))] (PW dC dI [(o0, .inr (5, [.ref (k0), .ref (s0), .ref (m0), .ref (r0), .ref (l0), .int (iI (lv)), .int (iI (cu)), .int (iI (pe)), .int (bI (lk)), .int (bI (fo))])), (k0, .inr (1, [.ref (k1), .ref (k2), .ref (k3), .ref (k4), .int (iI (((nc : Nat) : Int))), .long (bL (tb))])), (k1, .inl (cL, 5, .inr (.inl (aB (g))))), (k2, .inl (cI, 16, .inl (aI (fr)))), (k3, .inl (cI, 16, .inl (aI (tt)))), (k4, .inl (cI, 16, .inl (aI (sh)))), (s0, .inr (3, [.ref (s1), .ref (s2), .ref (s3), .ref (s4), .ref (s5), .ref (s6), .ref (s7), .int (iI (((n : Nat) : Int))), .long (bL (kn))])), (s1, .inl (cI, 48, .inl (aI (fd)))), (s2, .inl (cI, 48, .inl (aI (fs)))), (s3, .inl (cI, 48, .inl (aI (fl)))), (s4, .inl (cI, 48, .inl (aI (fh)))), (s5, .inl (cI, 48, .inl (aI (ft)))), (s6, .inl (cI, 48, .inl (aI (fc)))), (s7, .inl (cL, 5, .inr (.inl (aB (go))))), (m0, .inr (2, [.ref (m1), .int (iI (fm))])), (m1, .inl (cL, 443, .inr (.inl (aB (row))))), (r0, .inr (4, [.ref (c0), .ref (d0), .int (iI (nf))])), (c0, .inr (0, [.ref (c1), .ref (c2), .ref (c3)])), (c1, .inl (cI, 9, .inl (aI (fv)))), (c2, .inl (cZ, 9, .inl (aZ (fz)))), (c3, .inr (2, [.ref (c4), .int (iI (fw))])), (c4, .inl (cL, 443, .inr (.inl (aB (rw9))))), (d0, .inr (0, [.ref (d1), .ref (d2), .ref (d3)])), (d1, .inl (cI, 9, .inl (aI (gw)))), (d2, .inl (cZ, 9, .inl (aZ (gz)))), (d3, .inr (2, [.ref (d4), .int (iI (fx))])), (d4, .inl (cL, 443, .inr (.inl (aB (rx9))))), (l0, .inl (cI, 40, .inl (aI (li))))] [(cI, .int), (cL, .long), (cZ, .boolean)])) (k2_QcV (.int (iI (pis z fm)))) 0 0 (fun _ => False) := by
  refine Met.ofW (cc := prog_1_method_33_code) (maxL := 2) (ret := (some .int)) (by decide) rfl ?_
  intro p e s m args below meth c s₁ B hml hv
  obtain ⟨ha, hP, hK⟩ := hv
  have hx := B.exec
  have hb := B.bytes
  have hr := B.returns
  have htb : ∀ w ∈ TB, w.before args s = true := fun w h => atoms_spec (ws := Cond.code y_oc_pistonsOf prog_1_method_33_code 2 (some .int) :: TB) B.pre w (List.mem_cons_of_mem _ h)
  have hown : s.vm.findClass "OrganConsole" = some m.cls := findClass_of_methodNamed B.named
  have hlocks := B.notSynchronized
  have hl := lv_entry ([.ref (o0), .int (iI (z))]) (n := 2) (Nat.le_of_ble_eq_true rfl)
  refine W.eq (g2 := F0 m 0 _ []) (by rw [ha]; exact lg_entry_eq m ([.ref (o0), .int (iI (z))]) 2) ?_
  generalize (lg_sl ([.ref (o0), .int (iI (z))]) ++ List.replicate (2 - (lg_sl ([.ref (o0), .int (iI (z))])).length) Slot.unset).toArray = ls at hl ⊢
  have hl : lv_has ls 2 [(0, .ref (o0)), (1, .int (iI (z)))] := hl
  obtain ⟨hz1, hz2⟩ := hz
  refine lv_iload_n hx hb d_oc_pistonsOf_0 rfl (lv_at hl 1 rfl) ?_
  have hto : (iI (z)).toInt = z := iI_to (by omega) (by omega)
  by_cases u_1 : (z) = 0
  · refine lv_tableIn (tgt := 28) hx hb d_oc_pistonsOf_1 (by rw [hto]; omega) (by rw [hto]; omega) (by rw [hto, u_1]; rfl) (by decide) ?_
    refine lv_bipush (v := iI (16)) hx hb d_oc_pistonsOf_28 (by decide +kernel) ?_
    have q_2 : iI (16) = iI (pis z fm) := by
      unfold pis; congr 1; first | (rw [if_pos (by omega)]; done) | (rw [if_neg (by omega), if_pos (by omega)]; done) | (rw [if_neg (by omega), if_neg (by omega), if_pos (by omega)]; done) | (rw [if_neg (by omega), if_neg (by omega), if_neg (by omega)]; done) | (rw [if_neg (by omega), if_neg (by omega)]; done)
    rw [q_2]
    exact W.iret (v := iI (pis z fm)) hx hb hr (fun t ht hW => ⟨rfl, ht⟩) t_nil d_oc_pistonsOf_30
  by_cases u_3 : (z) = 1
  · refine lv_tableIn (tgt := 31) hx hb d_oc_pistonsOf_1 (by rw [hto]; omega) (by rw [hto]; omega) (by rw [hto, u_3]; rfl) (by decide) ?_
    refine lv_bipush (v := iI (25)) hx hb d_oc_pistonsOf_31 (by decide +kernel) ?_
    have q_4 : iI (25) = iI (pis z fm) := by
      unfold pis; congr 1; first | (rw [if_pos (by omega)]; done) | (rw [if_neg (by omega), if_pos (by omega)]; done) | (rw [if_neg (by omega), if_neg (by omega), if_pos (by omega)]; done) | (rw [if_neg (by omega), if_neg (by omega), if_neg (by omega)]; done) | (rw [if_neg (by omega), if_neg (by omega)]; done)
    rw [q_4]
    exact W.iret (v := iI (pis z fm)) hx hb hr (fun t ht hW => ⟨rfl, ht⟩) t_nil d_oc_pistonsOf_33
  by_cases u_5 : (z) = 2
  · refine lv_tableIn (tgt := 34) hx hb d_oc_pistonsOf_1 (by rw [hto]; omega) (by rw [hto]; omega) (by rw [hto, u_5]; rfl) (by decide) ?_
    refine lv_aload_n hx hb d_oc_pistonsOf_34 rfl (lv_at hl 0 rfl) ?_
    refine va_get (D := (dC, dI)) (ci := 5) (v := .ref (m0)) (C := "OrganConsole") (T := T_oc) (N := 10) hx hb htb in_oc hown hK hP 0 rfl rfl 2 (by decide) (htb _ tw_189) (fun _ h9 => h9) rfl d_oc_pistonsOf_35 ?_
    refine va_get (D := (dC, dI)) (ci := 2) (v := .int (iI (fm))) (C := "OrganConsole$Memory") (T := T_me) (N := 2) hx hb htb in_me hown hK hP 14 rfl rfl 1 (by decide) (htb _ tw_141) (fun _ h9 => h9) rfl d_oc_pistonsOf_38 ?_
    have q_6 : iI (fm) = iI (pis z fm) := by
      unfold pis; congr 1; first | (rw [if_pos (by omega)]; done) | (rw [if_neg (by omega), if_pos (by omega)]; done) | (rw [if_neg (by omega), if_neg (by omega), if_pos (by omega)]; done) | (rw [if_neg (by omega), if_neg (by omega), if_neg (by omega)]; done) | (rw [if_neg (by omega), if_neg (by omega)]; done)
    rw [q_6]
    exact W.iret (v := iI (pis z fm)) hx hb hr (fun t ht hW => ⟨rfl, ht⟩) t_nil d_oc_pistonsOf_41
  refine lv_tableOut (tgt := 42) hx hb d_oc_pistonsOf_1 (by rw [hto]; omega) (by decide) ?_
  refine lv_iconst (v := iI (0)) hx hb d_oc_pistonsOf_42 rfl ?_
  have q_7 : iI (0) = iI (pis z fm) := by
    unfold pis; congr 1; first | (rw [if_pos (by omega)]; done) | (rw [if_neg (by omega), if_pos (by omega)]; done) | (rw [if_neg (by omega), if_neg (by omega), if_pos (by omega)]; done) | (rw [if_neg (by omega), if_neg (by omega), if_neg (by omega)]; done) | (rw [if_neg (by omega), if_neg (by omega)]; done)
  rw [q_7]
  exact W.iret (v := iI (pis z fm)) hx hb hr (fun t ht hW => ⟨rfl, ht⟩) t_nil d_oc_pistonsOf_43

set_option maxHeartbeats 200000 in
set_option maxRecDepth 100000 in
theorem c_oc_wiresOf (l : Launch) (dC : Nat → ClassId) (dI : Nat → Nat → Nat) (cI cL cZ : ClassId) (o0 l0 : Nat) (lv cu pe : Int) (lk fo : Bool) (li : Nat → Int) (k0 k1 k2 k3 k4 : Nat) (g : Nat → Nat → Bool) (fr tt sh : Nat → Int) (nc : Nat) (tb : Nat → Bool) (hok : kwOk g fr tt sh nc) (s0 s1 s2 s3 s4 s5 s6 s7 : Nat) (fd fs fl fh ft fc : Nat → Int) (go : Nat → Nat → Bool) (n : Nat) (kn : Nat → Bool) (hn : n ≤ 48) (hft : ∀ s, 0 ≤ ft s ∧ ft s ≤ 3) (hfc : ∀ s, 0 ≤ fc s ∧ fc s ≤ 2) (hsb : ∀ s, 0 ≤ fd s ∧ fd s < 5 ∧ -24 ≤ fs s ∧ fs s ≤ 24 ∧ 0 ≤ fl s ∧ fl s ≤ 96 ∧ 0 ≤ fh s ∧ fh s ≤ 96) (m0 m1 : Nat) (row : Nat → Nat → Bool) (fm : Int) (r0 : Nat) (nf : Int) (c0 c1 c2 c3 c4 : Nat) (fv : Nat → Int) (fz : Nat → Bool) (rw9 : Nat → Nat → Bool) (fw : Int) (d0 d1 d2 d3 d4 : Nat) (gw : Nat → Int) (gz : Nat → Bool) (rx9 : Nat → Nat → Bool) (fx : Int) (hnf : nf = -1 ∨ nf = 0 ∨ nf = 1) (hv : ∀ p, 0 ≤ fv p ∧ fv p ≤ 100000) (hgw : ∀ p, 0 ≤ gw p ∧ gw p ≤ 100000) (hlv : 0 ≤ lv ∧ lv ≤ 7) (hcu : -1 ≤ cu ∧ cu < fm) (hpe : 0 ≤ pe ∧ pe ≤ 15) (hfm : 0 ≤ fm ∧ fm ≤ 100) (hli : ∀ j, 0 ≤ li j ∧ li j ≤ 2) (z : Int) (hz : inI z) : Met l y_oc_wiresOf (Cond.code y_oc_wiresOf prog_1_method_34_code 2 (some .int) :: TB) ({ frames := 0, cells := 0, slots := 0, locals := 0 }) (va_Pc [.ref (o0), .int (iI (z))] (PW dC dI [(o0, .inr (5, [.ref (k0), .ref (s0), .ref (m0), .ref (r0), .ref (l0), .int (iI (lv)), .int (iI (cu)), .int (iI (pe)), .int (bI (lk)), .int (bI (fo))])), (k0, .inr (1, [.ref (k1), .ref (k2), .ref (k3), .ref (k4), .int (iI (((nc : Nat) : Int))), .long (bL (tb))])), (k1, .inl (cL, 5, .inr (.inl (aB (g))))), (k2, .inl (cI, 16, .inl (aI (fr)))), (k3, .inl (cI, 16, .inl (aI (tt)))), (k4, .inl (cI, 16, .inl (aI (sh)))), (s0, .inr (3, [.ref (s1), .ref (s2), .ref (s3), .ref (s4), .ref (s5), .ref (s6), .ref (s7), .int (iI (((n : Nat) : Int))), .long (bL (kn))])), (s1, .inl (cI, 48, .inl (aI (fd)))), (s2, .inl (cI, 48, .inl (aI (fs)))), (s3, .inl (cI, 48, .inl (aI (fl)))), (s4, .inl (cI, 48, .inl (aI (fh)))), (s5, .inl (cI, 48, .inl (aI (ft)))), (s6, .inl (cI, 48, .inl (aI (fc)))), (s7, .inl (cL, 5, .inr (.inl (aB (go))))), (m0, .inr (2, [.ref (m1), .int (iI (fm))])), (m1, .inl (cL, 443, .inr (.inl (aB (row))))), (r0, .inr (4, [.ref (c0), .ref (d0), .int (iI (nf))])), (c0, .inr (0, [.ref (c1), .ref (c2), .ref (c3)])), (c1, .inl (cI, 9, .inl (aI (fv)))), (c2, .inl (cZ, 9, .inl (aZ (fz)))), (c3, .inr (2, [.ref (c4), .int (iI (fw))])), (c4, .inl (cL, 443, .inr (.inl (aB (rw9))))), (d0, .inr (0, [.ref (d1), .ref (d2), .ref (d3)])), (d1, .inl (cI, 9, .inl (aI (gw)))), (d2, .inl (cZ, 9, .inl (aZ (gz)))), (d3, .inr (2, [.ref (d4), .int (iI (fx))])), (d4, .inl (cL, 443, .inr (.inl (aB (rx9))))), (l0, .inl (cI, 40, .inl (aI (li))))] [(cI, .int), (cL, .long), (cZ, .boolean)])) (k2_QcV (.int (iI (wis z n)))) 0 0 (fun _ => False) := by
  refine Met.ofW (cc := prog_1_method_34_code) (maxL := 2) (ret := (some .int)) (by decide) rfl ?_
  intro p e s m args below meth c s₁ B hml hv
  obtain ⟨ha, hP, hK⟩ := hv
  have hx := B.exec
  have hb := B.bytes
  have hr := B.returns
  have htb : ∀ w ∈ TB, w.before args s = true := fun w h => atoms_spec (ws := Cond.code y_oc_wiresOf prog_1_method_34_code 2 (some .int) :: TB) B.pre w (List.mem_cons_of_mem _ h)
  have hown : s.vm.findClass "OrganConsole" = some m.cls := findClass_of_methodNamed B.named
  have hlocks := B.notSynchronized
  have hl := lv_entry ([.ref (o0), .int (iI (z))]) (n := 2) (Nat.le_of_ble_eq_true rfl)
  refine W.eq (g2 := F0 m 0 _ []) (by rw [ha]; exact lg_entry_eq m ([.ref (o0), .int (iI (z))]) 2) ?_
  generalize (lg_sl ([.ref (o0), .int (iI (z))]) ++ List.replicate (2 - (lg_sl ([.ref (o0), .int (iI (z))])).length) Slot.unset).toArray = ls at hl ⊢
  have hl : lv_has ls 2 [(0, .ref (o0)), (1, .int (iI (z)))] := hl
  obtain ⟨hz1, hz2⟩ := hz
  refine lv_iload_n hx hb d_oc_wiresOf_0 rfl (lv_at hl 1 rfl) ?_
  by_cases u_1 : (z) = 0
  · refine lv_lookup (tgt := 28) (off := 27) hx hb d_oc_wiresOf_1 (by decide) (by rw [u_1]; decide +kernel) (by decide) ?_
    refine lv_bipush (v := iI (40)) hx hb d_oc_wiresOf_28 (by decide +kernel) ?_
    have q_2 : iI (40) = iI (wis z n) := by
      unfold wis; congr 1; first | (rw [if_pos (by omega)]; done) | (rw [if_neg (by omega), if_pos (by omega)]; done) | (rw [if_neg (by omega), if_neg (by omega), if_pos (by omega)]; done) | (rw [if_neg (by omega), if_neg (by omega), if_neg (by omega)]; done) | (rw [if_neg (by omega), if_neg (by omega)]; done)
    rw [q_2]
    exact W.iret (v := iI (wis z n)) hx hb hr (fun t ht hW => ⟨rfl, ht⟩) t_nil d_oc_wiresOf_30
  by_cases u_3 : (z) = 1
  · refine lv_lookup (tgt := 31) (off := 30) hx hb d_oc_wiresOf_1 (by decide) (by rw [u_3]; decide +kernel) (by decide) ?_
    refine lv_aload_n hx hb d_oc_wiresOf_31 rfl (lv_at hl 0 rfl) ?_
    refine va_get (D := (dC, dI)) (ci := 5) (v := .ref (s0)) (C := "OrganConsole") (T := T_oc) (N := 10) hx hb htb in_oc hown hK hP 0 rfl rfl 1 (by decide) (htb _ tw_188) (fun _ h9 => h9) rfl d_oc_wiresOf_32 ?_
    refine va_get (D := (dC, dI)) (ci := 3) (v := .int (iI (((n : Nat) : Int)))) (C := "OrganConsole$Stops") (T := T_st) (N := 9) hx hb htb in_st hown hK hP 6 rfl rfl 7 (by decide) (htb _ tw_110) (fun _ h9 => h9) rfl d_oc_wiresOf_35 ?_
    have q_4 : iI (((n : Nat) : Int)) = iI (wis z n) := by
      unfold wis; congr 1; first | (rw [if_pos (by omega)]; done) | (rw [if_neg (by omega), if_pos (by omega)]; done) | (rw [if_neg (by omega), if_neg (by omega), if_pos (by omega)]; done) | (rw [if_neg (by omega), if_neg (by omega), if_neg (by omega)]; done) | (rw [if_neg (by omega), if_neg (by omega)]; done)
    rw [q_4]
    exact W.iret (v := iI (wis z n)) hx hb hr (fun t ht hW => ⟨rfl, ht⟩) t_nil d_oc_wiresOf_38
  have hto : (iI (z)).toInt = z := iI_to (by omega) (by omega)
  refine lv_lookup (tgt := 39) (off := 38) hx hb d_oc_wiresOf_1 (by decide) (by rw [hto]; exact lku2 (by omega) (by omega)) (by decide) ?_
  refine lv_iconst (v := iI (0)) hx hb d_oc_wiresOf_39 rfl ?_
  have q_5 : iI (0) = iI (wis z n) := by
    unfold wis; congr 1; first | (rw [if_pos (by omega)]; done) | (rw [if_neg (by omega), if_pos (by omega)]; done) | (rw [if_neg (by omega), if_neg (by omega), if_pos (by omega)]; done) | (rw [if_neg (by omega), if_neg (by omega), if_neg (by omega)]; done) | (rw [if_neg (by omega), if_neg (by omega)]; done)
  rw [q_5]
  exact W.iret (v := iI (wis z n)) hx hb hr (fun t ht hW => ⟨rfl, ht⟩) t_nil d_oc_wiresOf_40

set_option maxHeartbeats 200000 in
set_option maxRecDepth 100000 in
theorem c_oc_rowOf (l : Launch) (dC : Nat → ClassId) (dI : Nat → Nat → Nat) (cI cL cZ : ClassId) (o0 l0 : Nat) (lv cu pe : Int) (lk fo : Bool) (li : Nat → Int) (k0 k1 k2 k3 k4 : Nat) (g : Nat → Nat → Bool) (fr tt sh : Nat → Int) (nc : Nat) (tb : Nat → Bool) (hok : kwOk g fr tt sh nc) (s0 s1 s2 s3 s4 s5 s6 s7 : Nat) (fd fs fl fh ft fc : Nat → Int) (go : Nat → Nat → Bool) (n : Nat) (kn : Nat → Bool) (hn : n ≤ 48) (hft : ∀ s, 0 ≤ ft s ∧ ft s ≤ 3) (hfc : ∀ s, 0 ≤ fc s ∧ fc s ≤ 2) (hsb : ∀ s, 0 ≤ fd s ∧ fd s < 5 ∧ -24 ≤ fs s ∧ fs s ≤ 24 ∧ 0 ≤ fl s ∧ fl s ≤ 96 ∧ 0 ≤ fh s ∧ fh s ≤ 96) (m0 m1 : Nat) (row : Nat → Nat → Bool) (fm : Int) (r0 : Nat) (nf : Int) (c0 c1 c2 c3 c4 : Nat) (fv : Nat → Int) (fz : Nat → Bool) (rw9 : Nat → Nat → Bool) (fw : Int) (d0 d1 d2 d3 d4 : Nat) (gw : Nat → Int) (gz : Nat → Bool) (rx9 : Nat → Nat → Bool) (fx : Int) (hnf : nf = -1 ∨ nf = 0 ∨ nf = 1) (hv : ∀ p, 0 ≤ fv p ∧ fv p ≤ 100000) (hgw : ∀ p, 0 ≤ gw p ∧ gw p ≤ 100000) (hlv : 0 ≤ lv ∧ lv ≤ 7) (hcu : -1 ≤ cu ∧ cu < fm) (hpe : 0 ≤ pe ∧ pe ≤ 15) (hfm : 0 ≤ fm ∧ fm ≤ 100) (hli : ∀ j, 0 ≤ li j ∧ li j ≤ 2) (z : Int) (hz : inI z) (q : Int) : Met l y_oc_rowOf (Cond.code y_oc_rowOf prog_1_method_35_code 3 (some .int) :: TB) ({ frames := 1, cells := 0, slots := 0, locals := 21 }) (va_Pc [.ref (o0), .int (iI (z)), .int (iI (q))] (PW dC dI [(o0, .inr (5, [.ref (k0), .ref (s0), .ref (m0), .ref (r0), .ref (l0), .int (iI (lv)), .int (iI (cu)), .int (iI (pe)), .int (bI (lk)), .int (bI (fo))])), (k0, .inr (1, [.ref (k1), .ref (k2), .ref (k3), .ref (k4), .int (iI (((nc : Nat) : Int))), .long (bL (tb))])), (k1, .inl (cL, 5, .inr (.inl (aB (g))))), (k2, .inl (cI, 16, .inl (aI (fr)))), (k3, .inl (cI, 16, .inl (aI (tt)))), (k4, .inl (cI, 16, .inl (aI (sh)))), (s0, .inr (3, [.ref (s1), .ref (s2), .ref (s3), .ref (s4), .ref (s5), .ref (s6), .ref (s7), .int (iI (((n : Nat) : Int))), .long (bL (kn))])), (s1, .inl (cI, 48, .inl (aI (fd)))), (s2, .inl (cI, 48, .inl (aI (fs)))), (s3, .inl (cI, 48, .inl (aI (fl)))), (s4, .inl (cI, 48, .inl (aI (fh)))), (s5, .inl (cI, 48, .inl (aI (ft)))), (s6, .inl (cI, 48, .inl (aI (fc)))), (s7, .inl (cL, 5, .inr (.inl (aB (go))))), (m0, .inr (2, [.ref (m1), .int (iI (fm))])), (m1, .inl (cL, 443, .inr (.inl (aB (row))))), (r0, .inr (4, [.ref (c0), .ref (d0), .int (iI (nf))])), (c0, .inr (0, [.ref (c1), .ref (c2), .ref (c3)])), (c1, .inl (cI, 9, .inl (aI (fv)))), (c2, .inl (cZ, 9, .inl (aZ (fz)))), (c3, .inr (2, [.ref (c4), .int (iI (fw))])), (c4, .inl (cL, 443, .inr (.inl (aB (rw9))))), (d0, .inr (0, [.ref (d1), .ref (d2), .ref (d3)])), (d1, .inl (cI, 9, .inl (aI (gw)))), (d2, .inl (cZ, 9, .inl (aZ (gz)))), (d3, .inr (2, [.ref (d4), .int (iI (fx))])), (d4, .inl (cL, 443, .inr (.inl (aB (rx9))))), (l0, .inl (cI, 40, .inl (aI (li))))] [(cI, .int), (cL, .long), (cZ, .boolean)])) (k2_QcV (.int (iI (rwo lv z q)))) 0 0 (fun _ => False) := by
  refine Met.ofW (cc := prog_1_method_35_code) (maxL := 3) (ret := (some .int)) (by decide) rfl ?_
  intro p e s m args below meth c s₁ B hml hv
  obtain ⟨ha, hP, hK⟩ := hv
  have hx := B.exec
  have hb := B.bytes
  have hr := B.returns
  have htb : ∀ w ∈ TB, w.before args s = true := fun w h => atoms_spec (ws := Cond.code y_oc_rowOf prog_1_method_35_code 3 (some .int) :: TB) B.pre w (List.mem_cons_of_mem _ h)
  have hown : s.vm.findClass "OrganConsole" = some m.cls := findClass_of_methodNamed B.named
  have hlocks := B.notSynchronized
  have hl := lv_entry ([.ref (o0), .int (iI (z)), .int (iI (q))]) (n := 3) (Nat.le_of_ble_eq_true rfl)
  refine W.eq (g2 := F0 m 0 _ []) (by rw [ha]; exact lg_entry_eq m ([.ref (o0), .int (iI (z)), .int (iI (q))]) 3) ?_
  generalize (lg_sl ([.ref (o0), .int (iI (z)), .int (iI (q))]) ++ List.replicate (3 - (lg_sl ([.ref (o0), .int (iI (z)), .int (iI (q))])).length) Slot.unset).toArray = ls at hl ⊢
  have hl : lv_has ls 3 [(0, .ref (o0)), (1, .int (iI (z))), (2, .int (iI (q)))] := hl
  obtain ⟨hz1, hz2⟩ := hz
  refine lv_iload_n hx hb d_oc_rowOf_0 rfl (lv_at hl 1 rfl) ?_
  by_cases u_1 : (z) = 0
  · refine lv_lookup (tgt := 28) (off := 27) hx hb d_oc_rowOf_1 (by decide) (by rw [u_1]; decide +kernel) (by decide) ?_
    refine lv_aload_n hx hb d_oc_rowOf_28 rfl (lv_at hl 0 rfl) ?_
    refine va_get (D := (dC, dI)) (ci := 5) (v := .int (iI (lv))) (C := "OrganConsole") (T := T_oc) (N := 10) hx hb htb in_oc hown hK hP 0 rfl rfl 5 (by decide) (htb _ tw_192) (fun _ h9 => h9) rfl d_oc_rowOf_29 ?_
    refine lv_iload_n hx hb d_oc_rowOf_32 rfl (lv_at hl 2 rfl) ?_
    refine pcS hx hb hml hown htb (c_me_generalRow l (lv) (q)) tw_479 tw_480 tw_37 tw_481 2 (by decide +kernel) rfl rfl ⟨Nat.le_of_ble_eq_true rfl, Nat.le_of_ble_eq_true rfl⟩ ⟨Nat.zero_le _, Nat.zero_le _⟩ [.int (iI (lv)), .int (iI (q))] ⟨fun _ _ _ _ q => q, fun U _ _ => ⟨rfl, trivial⟩⟩ rfl hl.1 rfl (Nat.le_of_ble_eq_true rfl) d_oc_rowOf_33 ?_
    have q_2 : iI ((lv) * 16 + (q)) = iI (rwo lv z q) := by
      unfold rwo; congr 1; first | (rw [if_pos (by omega)]; done) | (rw [if_neg (by omega), if_pos (by omega)]; done) | (rw [if_neg (by omega), if_neg (by omega), if_pos (by omega)]; done) | (rw [if_neg (by omega), if_neg (by omega), if_neg (by omega)]; done) | (rw [if_neg (by omega), if_neg (by omega)]; done)
    rw [q_2]
    exact W.iret (v := iI (rwo lv z q)) hx hb hr (fun t ht hW => ⟨rfl, ht⟩) t_nil d_oc_rowOf_36
  by_cases u_3 : (z) = 1
  · refine lv_lookup (tgt := 37) (off := 36) hx hb d_oc_rowOf_1 (by decide) (by rw [u_3]; decide +kernel) (by decide) ?_
    refine lv_aload_n hx hb d_oc_rowOf_37 rfl (lv_at hl 0 rfl) ?_
    refine va_get (D := (dC, dI)) (ci := 5) (v := .int (iI (lv))) (C := "OrganConsole") (T := T_oc) (N := 10) hx hb htb in_oc hown hK hP 0 rfl rfl 5 (by decide) (htb _ tw_192) (fun _ h9 => h9) rfl d_oc_rowOf_38 ?_
    refine lv_iload_n hx hb d_oc_rowOf_41 rfl (lv_at hl 2 rfl) ?_
    refine pcS hx hb hml hown htb (c_me_divisionalRow l (lv) (q)) tw_482 tw_483 tw_37 tw_484 2 (by decide +kernel) rfl rfl ⟨Nat.le_of_ble_eq_true rfl, Nat.le_of_ble_eq_true rfl⟩ ⟨Nat.zero_le _, Nat.zero_le _⟩ [.int (iI (lv)), .int (iI (q))] ⟨fun _ _ _ _ q => q, fun U _ _ => ⟨rfl, trivial⟩⟩ rfl hl.1 rfl (Nat.le_of_ble_eq_true rfl) d_oc_rowOf_42 ?_
    have q_4 : iI (128 + (lv) * 25 + (q)) = iI (rwo lv z q) := by
      unfold rwo; congr 1; first | (rw [if_pos (by omega)]; done) | (rw [if_neg (by omega), if_pos (by omega)]; done) | (rw [if_neg (by omega), if_neg (by omega), if_pos (by omega)]; done) | (rw [if_neg (by omega), if_neg (by omega), if_neg (by omega)]; done) | (rw [if_neg (by omega), if_neg (by omega)]; done)
    rw [q_4]
    exact W.iret (v := iI (rwo lv z q)) hx hb hr (fun t ht hW => ⟨rfl, ht⟩) t_nil d_oc_rowOf_45
  have hto : (iI (z)).toInt = z := iI_to (by omega) (by omega)
  refine lv_lookup (tgt := 46) (off := 45) hx hb d_oc_rowOf_1 (by decide) (by rw [hto]; exact lku2 (by omega) (by omega)) (by decide) ?_
  refine lv_iload_n hx hb d_oc_rowOf_46 rfl (lv_at hl 2 rfl) ?_
  refine pcS hx hb hml hown htb (c_me_frameRow l (q)) tw_485 tw_486 tw_37 tw_487 1 (by decide +kernel) rfl rfl ⟨Nat.le_of_ble_eq_true rfl, Nat.le_of_ble_eq_true rfl⟩ ⟨Nat.zero_le _, Nat.zero_le _⟩ [.int (iI (q))] ⟨fun _ _ _ _ q => q, fun U _ _ => ⟨rfl, trivial⟩⟩ rfl hl.1 rfl (Nat.le_of_ble_eq_true rfl) d_oc_rowOf_47 ?_
  have q_5 : iI (328 + (q)) = iI (rwo lv z q) := by
    unfold rwo; congr 1; first | (rw [if_pos (by omega)]; done) | (rw [if_neg (by omega), if_pos (by omega)]; done) | (rw [if_neg (by omega), if_neg (by omega), if_pos (by omega)]; done) | (rw [if_neg (by omega), if_neg (by omega), if_neg (by omega)]; done) | (rw [if_neg (by omega), if_neg (by omega)]; done)
  rw [q_5]
  exact W.iret (v := iI (rwo lv z q)) hx hb hr (fun t ht hW => ⟨rfl, ht⟩) t_nil d_oc_rowOf_50

set_option maxHeartbeats 200000 in
set_option maxRecDepth 100000 in
theorem c_oc_scopeOf (l : Launch) (dC : Nat → ClassId) (dI : Nat → Nat → Nat) (cI cL cZ : ClassId) (o0 l0 : Nat) (lv cu pe : Int) (lk fo : Bool) (li : Nat → Int) (k0 k1 k2 k3 k4 : Nat) (g : Nat → Nat → Bool) (fr tt sh : Nat → Int) (nc : Nat) (tb : Nat → Bool) (hok : kwOk g fr tt sh nc) (s0 s1 s2 s3 s4 s5 s6 s7 : Nat) (fd fs fl fh ft fc : Nat → Int) (go : Nat → Nat → Bool) (n : Nat) (kn : Nat → Bool) (hn : n ≤ 48) (hft : ∀ s, 0 ≤ ft s ∧ ft s ≤ 3) (hfc : ∀ s, 0 ≤ fc s ∧ fc s ≤ 2) (hsb : ∀ s, 0 ≤ fd s ∧ fd s < 5 ∧ -24 ≤ fs s ∧ fs s ≤ 24 ∧ 0 ≤ fl s ∧ fl s ≤ 96 ∧ 0 ≤ fh s ∧ fh s ≤ 96) (m0 m1 : Nat) (row : Nat → Nat → Bool) (fm : Int) (r0 : Nat) (nf : Int) (c0 c1 c2 c3 c4 : Nat) (fv : Nat → Int) (fz : Nat → Bool) (rw9 : Nat → Nat → Bool) (fw : Int) (d0 d1 d2 d3 d4 : Nat) (gw : Nat → Int) (gz : Nat → Bool) (rx9 : Nat → Nat → Bool) (fx : Int) (hnf : nf = -1 ∨ nf = 0 ∨ nf = 1) (hv : ∀ p, 0 ≤ fv p ∧ fv p ≤ 100000) (hgw : ∀ p, 0 ≤ gw p ∧ gw p ≤ 100000) (hlv : 0 ≤ lv ∧ lv ≤ 7) (hcu : -1 ≤ cu ∧ cu < fm) (hpe : 0 ≤ pe ∧ pe ≤ 15) (hfm : 0 ≤ fm ∧ fm ≤ 100) (hli : ∀ j, 0 ≤ li j ∧ li j ≤ 2) (z : Int) (hz : inI z) (q : Int) (hq0 : 0 ≤ q) (hq1 : z = 1 → q < 25) (hq2 : q ≤ 1000) : Met l y_oc_scopeOf (Cond.code y_oc_scopeOf prog_1_method_36_code 3 (some .long) :: TB) ({ frames := 1, cells := 0, slots := 0, locals := 20 }) (va_Pc [.ref (o0), .int (iI (z)), .int (iI (q))] (PW dC dI [(o0, .inr (5, [.ref (k0), .ref (s0), .ref (m0), .ref (r0), .ref (l0), .int (iI (lv)), .int (iI (cu)), .int (iI (pe)), .int (bI (lk)), .int (bI (fo))])), (k0, .inr (1, [.ref (k1), .ref (k2), .ref (k3), .ref (k4), .int (iI (((nc : Nat) : Int))), .long (bL (tb))])), (k1, .inl (cL, 5, .inr (.inl (aB (g))))), (k2, .inl (cI, 16, .inl (aI (fr)))), (k3, .inl (cI, 16, .inl (aI (tt)))), (k4, .inl (cI, 16, .inl (aI (sh)))), (s0, .inr (3, [.ref (s1), .ref (s2), .ref (s3), .ref (s4), .ref (s5), .ref (s6), .ref (s7), .int (iI (((n : Nat) : Int))), .long (bL (kn))])), (s1, .inl (cI, 48, .inl (aI (fd)))), (s2, .inl (cI, 48, .inl (aI (fs)))), (s3, .inl (cI, 48, .inl (aI (fl)))), (s4, .inl (cI, 48, .inl (aI (fh)))), (s5, .inl (cI, 48, .inl (aI (ft)))), (s6, .inl (cI, 48, .inl (aI (fc)))), (s7, .inl (cL, 5, .inr (.inl (aB (go))))), (m0, .inr (2, [.ref (m1), .int (iI (fm))])), (m1, .inl (cL, 443, .inr (.inl (aB (row))))), (r0, .inr (4, [.ref (c0), .ref (d0), .int (iI (nf))])), (c0, .inr (0, [.ref (c1), .ref (c2), .ref (c3)])), (c1, .inl (cI, 9, .inl (aI (fv)))), (c2, .inl (cZ, 9, .inl (aZ (fz)))), (c3, .inr (2, [.ref (c4), .int (iI (fw))])), (c4, .inl (cL, 443, .inr (.inl (aB (rw9))))), (d0, .inr (0, [.ref (d1), .ref (d2), .ref (d3)])), (d1, .inl (cI, 9, .inl (aI (gw)))), (d2, .inl (cZ, 9, .inl (aZ (gz)))), (d3, .inr (2, [.ref (d4), .int (iI (fx))])), (d4, .inl (cL, 443, .inr (.inl (aB (rx9))))), (l0, .inl (cI, 40, .inl (aI (li))))] [(cI, .int), (cL, .long), (cZ, .boolean)])) (k2_QcV (.long (bL (sco go n z q)))) 0 0 (fun _ => False) := by
  refine Met.ofW (cc := prog_1_method_36_code) (maxL := 3) (ret := (some .long)) (by decide) rfl ?_
  intro p e s m args below meth c s₁ B hml hv
  obtain ⟨ha, hP, hK⟩ := hv
  have hx := B.exec
  have hb := B.bytes
  have hr := B.returns
  have htb : ∀ w ∈ TB, w.before args s = true := fun w h => atoms_spec (ws := Cond.code y_oc_scopeOf prog_1_method_36_code 3 (some .long) :: TB) B.pre w (List.mem_cons_of_mem _ h)
  have hown : s.vm.findClass "OrganConsole" = some m.cls := findClass_of_methodNamed B.named
  have hlocks := B.notSynchronized
  have hl := lv_entry ([.ref (o0), .int (iI (z)), .int (iI (q))]) (n := 3) (Nat.le_of_ble_eq_true rfl)
  refine W.eq (g2 := F0 m 0 _ []) (by rw [ha]; exact lg_entry_eq m ([.ref (o0), .int (iI (z)), .int (iI (q))]) 3) ?_
  generalize (lg_sl ([.ref (o0), .int (iI (z)), .int (iI (q))]) ++ List.replicate (3 - (lg_sl ([.ref (o0), .int (iI (z)), .int (iI (q))])).length) Slot.unset).toArray = ls at hl ⊢
  have hl : lv_has ls 3 [(0, .ref (o0)), (1, .int (iI (z))), (2, .int (iI (q)))] := hl
  obtain ⟨hz1, hz2⟩ := hz
  refine lv_iload_n hx hb d_oc_scopeOf_0 rfl (lv_at hl 1 rfl) ?_
  refine lv_iconst (v := iI (1)) hx hb d_oc_scopeOf_1 rfl ?_
  refine xi_icmp_ne (tgt := 19) hx hb ⟨by omega, by omega⟩ ⟨by omega, by omega⟩ d_oc_scopeOf_2 (by decide) (fun u_1 => ?_) (fun u_1 => ?_)
  · skip
    refine lv_aload_n hx hb d_oc_scopeOf_19 rfl (lv_at hl 0 rfl) ?_
    refine va_get (D := (dC, dI)) (ci := 5) (v := .ref (s0)) (C := "OrganConsole") (T := T_oc) (N := 10) hx hb htb in_oc hown hK hP 0 rfl rfl 1 (by decide) (htb _ tw_188) (fun _ h9 => h9) rfl d_oc_scopeOf_20 ?_
    refine pcV hx hb hml hown htb (c_st_all l dC dI cI cL cZ s0 s1 s2 s3 s4 s5 s6 s7 fd fs fl fh ft fc go n kn hn ) tw_492 tw_493 tw_494 tw_36 tw_495 0 (by decide +kernel) rfl rfl ⟨Nat.le_of_ble_eq_true rfl, Nat.le_of_ble_eq_true rfl⟩ ⟨Nat.zero_le _, Nat.zero_le _⟩ [] (PW_V (q0 := 6) (ci := 3) (ws := [(s0, .inr (3, [.ref (s1), .ref (s2), .ref (s3), .ref (s4), .ref (s5), .ref (s6), .ref (s7), .int (iI (((n : Nat) : Int))), .long (bL (kn))])), (s1, .inl (cI, 48, .inl (aI (fd)))), (s2, .inl (cI, 48, .inl (aI (fs)))), (s3, .inl (cI, 48, .inl (aI (fl)))), (s4, .inl (cI, 48, .inl (aI (fh)))), (s5, .inl (cI, 48, .inl (aI (ft)))), (s6, .inl (cI, 48, .inl (aI (fc)))), (s7, .inl (cL, 5, .inr (.inl (aB (go)))))]) hP (hP.sub [6, 7, 8, 9, 10, 11, 12, 13] rfl) hK rfl rfl) rfl hl.1 rfl (Nat.le_of_ble_eq_true rfl) d_oc_scopeOf_23 ?_
    have q_2 : bL (fun j => decide (j < (n))) = bL (sco go n z q) := by
      unfold sco; first | (rw [if_pos (by omega)]; done) | (rw [if_neg (by omega)]; done)
    rw [q_2]
    exact W.lret (v := bL (sco go n z q)) hx hb hr (fun t ht hW => ⟨rfl, ht⟩) t_nil d_oc_scopeOf_26
  · skip
    have hq3 := hq1 (by omega)
    refine lv_aload_n hx hb d_oc_scopeOf_5 rfl (lv_at hl 0 rfl) ?_
    refine va_get (D := (dC, dI)) (ci := 5) (v := .ref (s0)) (C := "OrganConsole") (T := T_oc) (N := 10) hx hb htb in_oc hown hK hP 0 rfl rfl 1 (by decide) (htb _ tw_188) (fun _ h9 => h9) rfl d_oc_scopeOf_6 ?_
    refine va_get (D := (dC, dI)) (ci := 3) (v := .ref (s7)) (C := "OrganConsole$Stops") (T := T_st) (N := 9) hx hb htb in_st hown hK hP 6 rfl rfl 6 (by decide) (htb _ tw_108) (fun _ h9 => h9) rfl d_oc_scopeOf_9 ?_
    refine lv_iload_n hx hb d_oc_scopeOf_12 rfl (lv_at hl 2 rfl) ?_
    refine lv_iconst (v := iI (5)) hx hb d_oc_scopeOf_13 rfl ?_
    refine xi_div hx hb ⟨by omega, by omega⟩ ⟨by omega, by omega⟩ d_oc_scopeOf_14 ?_
    refine xa_bald hx hb hK hP 13 1 rfl rfl ((q) / (5)).toNat (by omega) (by omega) (by decide) d_oc_scopeOf_15 ?_
    refine lv_goto (tgt := 26) hx hb d_oc_scopeOf_16 (by decide) ?_
    have q_3 : bL ((go) ((q) / (5)).toNat) = bL (sco go n z q) := by
      unfold sco; first | (rw [if_pos (by omega)]; done) | (rw [if_neg (by omega)]; done)
    rw [q_3]
    exact W.lret (v := bL (sco go n z q)) hx hb hr (fun t ht hW => ⟨rfl, ht⟩) t_nil d_oc_scopeOf_26

set_option maxHeartbeats 200000 in
set_option maxRecDepth 100000 in
theorem c_oc_speaking (l : Launch) (dC : Nat → ClassId) (dI : Nat → Nat → Nat) (cI cL cZ : ClassId) (o0 l0 : Nat) (lv cu pe : Int) (lk fo : Bool) (li : Nat → Int) (k0 k1 k2 k3 k4 : Nat) (g : Nat → Nat → Bool) (fr tt sh : Nat → Int) (nc : Nat) (tb : Nat → Bool) (hok : kwOk g fr tt sh nc) (s0 s1 s2 s3 s4 s5 s6 s7 : Nat) (fd fs fl fh ft fc : Nat → Int) (go : Nat → Nat → Bool) (n : Nat) (kn : Nat → Bool) (hn : n ≤ 48) (hft : ∀ s, 0 ≤ ft s ∧ ft s ≤ 3) (hfc : ∀ s, 0 ≤ fc s ∧ fc s ≤ 2) (hsb : ∀ s, 0 ≤ fd s ∧ fd s < 5 ∧ -24 ≤ fs s ∧ fs s ≤ 24 ∧ 0 ≤ fl s ∧ fl s ≤ 96 ∧ 0 ≤ fh s ∧ fh s ≤ 96) (m0 m1 : Nat) (row : Nat → Nat → Bool) (fm : Int) (r0 : Nat) (nf : Int) (c0 c1 c2 c3 c4 : Nat) (fv : Nat → Int) (fz : Nat → Bool) (rw9 : Nat → Nat → Bool) (fw : Int) (d0 d1 d2 d3 d4 : Nat) (gw : Nat → Int) (gz : Nat → Bool) (rx9 : Nat → Nat → Bool) (fx : Int) (hnf : nf = -1 ∨ nf = 0 ∨ nf = 1) (hv : ∀ p, 0 ≤ fv p ∧ fv p ≤ 100000) (hgw : ∀ p, 0 ≤ gw p ∧ gw p ≤ 100000) (hlv : 0 ≤ lv ∧ lv ≤ 7) (hcu : -1 ≤ cu ∧ cu < fm) (hpe : 0 ≤ pe ∧ pe ≤ 15) (hfm : 0 ≤ fm ∧ fm ≤ 100) (hli : ∀ j, 0 ≤ li j ∧ li j ≤ 2) : Met l y_oc_speaking (Cond.code y_oc_speaking prog_1_method_38_code 1 (some .long) :: TB) ({ frames := 2, cells := 0, slots := 0, locals := 44 }) (va_Pc [.ref (o0)] (PW dC dI [(o0, .inr (5, [.ref (k0), .ref (s0), .ref (m0), .ref (r0), .ref (l0), .int (iI (lv)), .int (iI (cu)), .int (iI (pe)), .int (bI (lk)), .int (bI (fo))])), (k0, .inr (1, [.ref (k1), .ref (k2), .ref (k3), .ref (k4), .int (iI (((nc : Nat) : Int))), .long (bL (tb))])), (k1, .inl (cL, 5, .inr (.inl (aB (g))))), (k2, .inl (cI, 16, .inl (aI (fr)))), (k3, .inl (cI, 16, .inl (aI (tt)))), (k4, .inl (cI, 16, .inl (aI (sh)))), (s0, .inr (3, [.ref (s1), .ref (s2), .ref (s3), .ref (s4), .ref (s5), .ref (s6), .ref (s7), .int (iI (((n : Nat) : Int))), .long (bL (kn))])), (s1, .inl (cI, 48, .inl (aI (fd)))), (s2, .inl (cI, 48, .inl (aI (fs)))), (s3, .inl (cI, 48, .inl (aI (fl)))), (s4, .inl (cI, 48, .inl (aI (fh)))), (s5, .inl (cI, 48, .inl (aI (ft)))), (s6, .inl (cI, 48, .inl (aI (fc)))), (s7, .inl (cL, 5, .inr (.inl (aB (go))))), (m0, .inr (2, [.ref (m1), .int (iI (fm))])), (m1, .inl (cL, 443, .inr (.inl (aB (row))))), (r0, .inr (4, [.ref (c0), .ref (d0), .int (iI (nf))])), (c0, .inr (0, [.ref (c1), .ref (c2), .ref (c3)])), (c1, .inl (cI, 9, .inl (aI (fv)))), (c2, .inl (cZ, 9, .inl (aZ (fz)))), (c3, .inr (2, [.ref (c4), .int (iI (fw))])), (c4, .inl (cL, 443, .inr (.inl (aB (rw9))))), (d0, .inr (0, [.ref (d1), .ref (d2), .ref (d3)])), (d1, .inl (cI, 9, .inl (aI (gw)))), (d2, .inl (cZ, 9, .inl (aZ (gz)))), (d3, .inr (2, [.ref (d4), .int (iI (fx))])), (d4, .inl (cL, 443, .inr (.inl (aB (rx9))))), (l0, .inl (cI, 40, .inl (aI (li))))] [(cI, .int), (cL, .long), (cZ, .boolean)])) (k2_QcV (.long (bL (spk fo n kn row pe)))) 0 0 (fun _ => False) := by
  refine Met.ofW (cc := prog_1_method_38_code) (maxL := 1) (ret := (some .long)) (by decide) rfl ?_
  intro p e s m args below meth c s₁ B hml hv
  obtain ⟨ha, hP, hK⟩ := hv
  have hx := B.exec
  have hb := B.bytes
  have hr := B.returns
  have htb : ∀ w ∈ TB, w.before args s = true := fun w h => atoms_spec (ws := Cond.code y_oc_speaking prog_1_method_38_code 1 (some .long) :: TB) B.pre w (List.mem_cons_of_mem _ h)
  have hown : s.vm.findClass "OrganConsole" = some m.cls := findClass_of_methodNamed B.named
  have hlocks := B.notSynchronized
  have hl := lv_entry ([.ref (o0)]) (n := 1) (Nat.le_of_ble_eq_true rfl)
  refine W.eq (g2 := F0 m 0 _ []) (by rw [ha]; exact lg_entry_eq m ([.ref (o0)]) 1) ?_
  generalize (lg_sl ([.ref (o0)]) ++ List.replicate (1 - (lg_sl ([.ref (o0)])).length) Slot.unset).toArray = ls at hl ⊢
  have hl : lv_has ls 1 [(0, .ref (o0))] := hl
  refine lv_aload_n hx hb d_oc_speaking_0 rfl (lv_at hl 0 rfl) ?_
  refine va_get (D := (dC, dI)) (ci := 5) (v := .int (bI (fo))) (C := "OrganConsole") (T := T_oc) (N := 10) hx hb htb in_oc hown hK hP 0 rfl rfl 9 (by decide) (htb _ tw_196) (fun _ h9 => h9) rfl d_oc_speaking_1 ?_
  refine xz_if_eq (tgt := 17) hx hb d_oc_speaking_4 (by decide) (fun u_1 => ?_) (fun u_1 => ?_)
  · skip
    refine lv_aload_n hx hb d_oc_speaking_17 rfl (lv_at hl 0 rfl) ?_
    refine va_get (D := (dC, dI)) (ci := 5) (v := .ref (s0)) (C := "OrganConsole") (T := T_oc) (N := 10) hx hb htb in_oc hown hK hP 0 rfl rfl 1 (by decide) (htb _ tw_188) (fun _ h9 => h9) rfl d_oc_speaking_18 ?_
    refine va_get (D := (dC, dI)) (ci := 3) (v := .long (bL (kn))) (C := "OrganConsole$Stops") (T := T_st) (N := 9) hx hb htb in_st hown hK hP 6 rfl rfl 8 (by decide) (htb _ tw_112) (fun _ h9 => h9) rfl d_oc_speaking_21 ?_
    refine lv_aload_n hx hb d_oc_speaking_24 rfl (lv_at hl 0 rfl) ?_
    refine va_get (D := (dC, dI)) (ci := 5) (v := .ref (m0)) (C := "OrganConsole") (T := T_oc) (N := 10) hx hb htb in_oc hown hK hP 0 rfl rfl 2 (by decide) (htb _ tw_189) (fun _ h9 => h9) rfl d_oc_speaking_25 ?_
    refine lv_aload_n hx hb d_oc_speaking_28 rfl (lv_at hl 0 rfl) ?_
    refine va_get (D := (dC, dI)) (ci := 5) (v := .int (iI (pe))) (C := "OrganConsole") (T := T_oc) (N := 10) hx hb htb in_oc hown hK hP 0 rfl rfl 7 (by decide) (htb _ tw_194) (fun _ h9 => h9) rfl d_oc_speaking_29 ?_
    refine pcV hx hb hml hown htb (c_me_stepsUpTo l dC dI cI cL cZ m0 m1 row fm (pe).toNat _ (by omega) (by omega)) tw_611 tw_612 tw_613 tw_37 tw_614 1 (by decide +kernel) rfl rfl ⟨Nat.le_of_ble_eq_true rfl, Nat.le_of_ble_eq_true rfl⟩ ⟨Nat.zero_le _, Nat.zero_le _⟩ [.int (iI (pe))] (PW_V (q0 := 14) (ci := 2) (ws := [(m0, .inr (2, [.ref (m1), .int (iI (fm))])), (m1, .inl (cL, 443, .inr (.inl (aB (row)))))]) hP (hP.sub [14, 15] rfl) hK rfl rfl) rfl hl.1 rfl (Nat.le_of_ble_eq_true rfl) d_oc_speaking_32 ?_
    refine xb_or (f := kn) (g := su row (pe).toNat) hx hb d_oc_speaking_35 ?_
    have q_2 : bL (fun j => (kn) j || (su row (pe).toNat) j) = bL (spk fo n kn row pe) := by
      unfold spk; first | (rw [if_pos (by assumption)]; done) | (rw [if_neg (by simp_all)]; done)
    rw [q_2]
    exact W.lret (v := bL (spk fo n kn row pe)) hx hb hr (fun t ht hW => ⟨rfl, ht⟩) t_nil d_oc_speaking_36
  · skip
    refine lv_aload_n hx hb d_oc_speaking_7 rfl (lv_at hl 0 rfl) ?_
    refine va_get (D := (dC, dI)) (ci := 5) (v := .ref (s0)) (C := "OrganConsole") (T := T_oc) (N := 10) hx hb htb in_oc hown hK hP 0 rfl rfl 1 (by decide) (htb _ tw_188) (fun _ h9 => h9) rfl d_oc_speaking_8 ?_
    refine pcV hx hb hml hown htb (c_st_all l dC dI cI cL cZ s0 s1 s2 s3 s4 s5 s6 s7 fd fs fl fh ft fc go n kn hn ) tw_492 tw_493 tw_494 tw_36 tw_495 0 (by decide +kernel) rfl rfl ⟨Nat.le_of_ble_eq_true rfl, Nat.le_of_ble_eq_true rfl⟩ ⟨Nat.zero_le _, Nat.zero_le _⟩ [] (PW_V (q0 := 6) (ci := 3) (ws := [(s0, .inr (3, [.ref (s1), .ref (s2), .ref (s3), .ref (s4), .ref (s5), .ref (s6), .ref (s7), .int (iI (((n : Nat) : Int))), .long (bL (kn))])), (s1, .inl (cI, 48, .inl (aI (fd)))), (s2, .inl (cI, 48, .inl (aI (fs)))), (s3, .inl (cI, 48, .inl (aI (fl)))), (s4, .inl (cI, 48, .inl (aI (fh)))), (s5, .inl (cI, 48, .inl (aI (ft)))), (s6, .inl (cI, 48, .inl (aI (fc)))), (s7, .inl (cL, 5, .inr (.inl (aB (go)))))]) hP (hP.sub [6, 7, 8, 9, 10, 11, 12, 13] rfl) hK rfl rfl) rfl hl.1 rfl (Nat.le_of_ble_eq_true rfl) d_oc_speaking_11 ?_
    refine lv_goto (tgt := 36) hx hb d_oc_speaking_14 (by decide) ?_
    have q_3 : bL (fun j => decide (j < (n))) = bL (spk fo n kn row pe) := by
      unfold spk; first | (rw [if_pos (by assumption)]; done) | (rw [if_neg (by simp_all)]; done)
    rw [q_3]
    exact W.lret (v := bL (spk fo n kn row pe)) hx hb hr (fun t ht hW => ⟨rfl, ht⟩) t_nil d_oc_speaking_36

set_option maxHeartbeats 200000 in
set_option maxRecDepth 100000 in
theorem c_oc_windedPipes (l : Launch) (dC : Nat → ClassId) (dI : Nat → Nat → Nat) (cI cL cZ : ClassId) (o0 l0 : Nat) (lv cu pe : Int) (lk fo : Bool) (li : Nat → Int) (k0 k1 k2 k3 k4 : Nat) (g : Nat → Nat → Bool) (fr tt sh : Nat → Int) (nc : Nat) (tb : Nat → Bool) (hok : kwOk g fr tt sh nc) (s0 s1 s2 s3 s4 s5 s6 s7 : Nat) (fd fs fl fh ft fc : Nat → Int) (go : Nat → Nat → Bool) (n : Nat) (kn : Nat → Bool) (hn : n ≤ 48) (hft : ∀ s, 0 ≤ ft s ∧ ft s ≤ 3) (hfc : ∀ s, 0 ≤ fc s ∧ fc s ≤ 2) (hsb : ∀ s, 0 ≤ fd s ∧ fd s < 5 ∧ -24 ≤ fs s ∧ fs s ≤ 24 ∧ 0 ≤ fl s ∧ fl s ≤ 96 ∧ 0 ≤ fh s ∧ fh s ≤ 96) (m0 m1 : Nat) (row : Nat → Nat → Bool) (fm : Int) (r0 : Nat) (nf : Int) (c0 c1 c2 c3 c4 : Nat) (fv : Nat → Int) (fz : Nat → Bool) (rw9 : Nat → Nat → Bool) (fw : Int) (d0 d1 d2 d3 d4 : Nat) (gw : Nat → Int) (gz : Nat → Bool) (rx9 : Nat → Nat → Bool) (fx : Int) (hnf : nf = -1 ∨ nf = 0 ∨ nf = 1) (hv : ∀ p, 0 ≤ fv p ∧ fv p ≤ 100000) (hgw : ∀ p, 0 ≤ gw p ∧ gw p ≤ 100000) (hlv : 0 ≤ lv ∧ lv ≤ 7) (hcu : -1 ≤ cu ∧ cu < fm) (hpe : 0 ≤ pe ∧ pe ≤ 15) (hfm : 0 ≤ fm ∧ fm ≤ 100) (hli : ∀ j, 0 ≤ li j ∧ li j ≤ 2) (k : Nat) (z : Int) (hz : z = (k : Int)) (hk : k < 48) : Met l y_oc_windedPipes (Cond.code y_oc_windedPipes prog_1_method_39_code 3 (some .int) :: TB) ({ frames := 3, cells := 0, slots := 0, locals := 74 }) (va_Pc [.ref (o0), .int (iI (z))] (PN dC dI [(o0, .inr (5, [.ref (k0), .ref (s0), .ref (m0), .ref (r0), .ref (l0), .int (iI (lv)), .int (iI (cu)), .int (iI (pe)), .int (bI (lk)), .int (bI (fo))])), (k0, .inr (1, [.ref (k1), .ref (k2), .ref (k3), .ref (k4), .int (iI (((nc : Nat) : Int))), .long (bL (tb))])), (k1, .inl (cL, 5, .inr (.inl (aB (g))))), (k2, .inl (cI, 16, .inl (aI (fr)))), (k3, .inl (cI, 16, .inl (aI (tt)))), (k4, .inl (cI, 16, .inl (aI (sh)))), (s0, .inr (3, [.ref (s1), .ref (s2), .ref (s3), .ref (s4), .ref (s5), .ref (s6), .ref (s7), .int (iI (((n : Nat) : Int))), .long (bL (kn))])), (s1, .inl (cI, 48, .inl (aI (fd)))), (s2, .inl (cI, 48, .inl (aI (fs)))), (s3, .inl (cI, 48, .inl (aI (fl)))), (s4, .inl (cI, 48, .inl (aI (fh)))), (s5, .inl (cI, 48, .inl (aI (ft)))), (s6, .inl (cI, 48, .inl (aI (fc)))), (s7, .inl (cL, 5, .inr (.inl (aB (go))))), (m0, .inr (2, [.ref (m1), .int (iI (fm))])), (m1, .inl (cL, 443, .inr (.inl (aB (row))))), (r0, .inr (4, [.ref (c0), .ref (d0), .int (iI (nf))])), (c0, .inr (0, [.ref (c1), .ref (c2), .ref (c3)])), (c1, .inl (cI, 9, .inl (aI (fv)))), (c2, .inl (cZ, 9, .inl (aZ (fz)))), (c3, .inr (2, [.ref (c4), .int (iI (fw))])), (c4, .inl (cL, 443, .inr (.inl (aB (rw9))))), (d0, .inr (0, [.ref (d1), .ref (d2), .ref (d3)])), (d1, .inl (cI, 9, .inl (aI (gw)))), (d2, .inl (cZ, 9, .inl (aZ (gz)))), (d3, .inr (2, [.ref (d4), .int (iI (fx))])), (d4, .inl (cL, 443, .inr (.inl (aB (rx9))))), (l0, .inl (cI, 40, .inl (aI (li))))] [(cI, .int), (cL, .long), (cZ, .boolean)])) (k2_QcV (.int (iI (((wpi g fr tt sh tb nc fd fs fl fh k : Nat) : Int))))) 0 0 (fun _ => False) := by
  refine Met.ofW (cc := prog_1_method_39_code) (maxL := 3) (ret := (some .int)) (by decide) rfl ?_
  intro p e s m args below meth c s₁ B hml hv
  obtain ⟨ha, hP, hK, hN⟩ := hv
  have hx := B.exec
  have hb := B.bytes
  have hr := B.returns
  have htb : ∀ w ∈ TB, w.before args s = true := fun w h => atoms_spec (ws := Cond.code y_oc_windedPipes prog_1_method_39_code 3 (some .int) :: TB) B.pre w (List.mem_cons_of_mem _ h)
  have hown : s.vm.findClass "OrganConsole" = some m.cls := findClass_of_methodNamed B.named
  have hlocks := B.notSynchronized
  have hl := lv_entry ([.ref (o0), .int (iI (z))]) (n := 3) (Nat.le_of_ble_eq_true rfl)
  refine W.eq (g2 := F0 m 0 _ []) (by rw [ha]; exact lg_entry_eq m ([.ref (o0), .int (iI (z))]) 3) ?_
  generalize (lg_sl ([.ref (o0), .int (iI (z))]) ++ List.replicate (3 - (lg_sl ([.ref (o0), .int (iI (z))])).length) Slot.unset).toArray = ls at hl ⊢
  have hl : lv_has ls 3 [(0, .ref (o0)), (1, .int (iI (z)))] := hl
  have hs := hsb k
  refine lv_aload_n hx hb d_oc_windedPipes_0 rfl (lv_at hl 0 rfl) ?_
  refine va_get (D := (dC, dI)) (ci := 5) (v := .ref (s0)) (C := "OrganConsole") (T := T_oc) (N := 10) hx hb htb in_oc hown hK hP 0 rfl rfl 1 (by decide) (htb _ tw_188) (fun _ h9 => h9) rfl d_oc_windedPipes_1 ?_
  refine va_get (D := (dC, dI)) (ci := 3) (v := .ref (s2)) (C := "OrganConsole$Stops") (T := T_st) (N := 9) hx hb htb in_st hown hK hP 6 rfl rfl 1 (by decide) (htb _ tw_98) (fun _ h9 => h9) rfl d_oc_windedPipes_4 ?_
  refine lv_iload_n hx hb d_oc_windedPipes_7 rfl (lv_at hl 1 rfl) ?_
  refine xa_iald hx hb hK hP 8 0 rfl rfl k (by omega) (by omega) (by decide) d_oc_windedPipes_8 ?_
  refine lv_istore_n hx hb d_oc_windedPipes_9 rfl hl (by decide) rfl (fun ls hl => ?_)
  have hl : lv_has ls 3 [(2, .int (iI ((fs) k))), (0, .ref (o0)), (1, .int (iI (z)))] := hl
  refine lv_aload_n hx hb d_oc_windedPipes_10 rfl (lv_at hl 1 rfl) ?_
  refine va_get (D := (dC, dI)) (ci := 5) (v := .ref (k0)) (C := "OrganConsole") (T := T_oc) (N := 10) hx hb htb in_oc hown hK hP 0 rfl rfl 0 (by decide) (htb _ tw_187) (fun _ h9 => h9) rfl d_oc_windedPipes_11 ?_
  refine lv_aload_n hx hb d_oc_windedPipes_14 rfl (lv_at hl 1 rfl) ?_
  refine va_get (D := (dC, dI)) (ci := 5) (v := .ref (s0)) (C := "OrganConsole") (T := T_oc) (N := 10) hx hb htb in_oc hown hK hP 0 rfl rfl 1 (by decide) (htb _ tw_188) (fun _ h9 => h9) rfl d_oc_windedPipes_15 ?_
  refine va_get (D := (dC, dI)) (ci := 3) (v := .ref (s1)) (C := "OrganConsole$Stops") (T := T_st) (N := 9) hx hb htb in_st hown hK hP 6 rfl rfl 0 (by decide) (htb _ tw_96) (fun _ h9 => h9) rfl d_oc_windedPipes_18 ?_
  refine lv_iload_n hx hb d_oc_windedPipes_21 rfl (lv_at hl 2 rfl) ?_
  refine xa_iald hx hb hK hP 7 0 rfl rfl k (by omega) (by omega) (by decide) d_oc_windedPipes_22 ?_
  refine lv_aload_n hx hb d_oc_windedPipes_23 rfl (lv_at hl 1 rfl) ?_
  refine va_get (D := (dC, dI)) (ci := 5) (v := .ref (s0)) (C := "OrganConsole") (T := T_oc) (N := 10) hx hb htb in_oc hown hK hP 0 rfl rfl 1 (by decide) (htb _ tw_188) (fun _ h9 => h9) rfl d_oc_windedPipes_24 ?_
  refine va_get (D := (dC, dI)) (ci := 3) (v := .ref (s3)) (C := "OrganConsole$Stops") (T := T_st) (N := 9) hx hb htb in_st hown hK hP 6 rfl rfl 2 (by decide) (htb _ tw_100) (fun _ h9 => h9) rfl d_oc_windedPipes_27 ?_
  refine lv_iload_n hx hb d_oc_windedPipes_30 rfl (lv_at hl 2 rfl) ?_
  refine xa_iald hx hb hK hP 9 0 rfl rfl k (by omega) (by omega) (by decide) d_oc_windedPipes_31 ?_
  refine lv_iload_n hx hb d_oc_windedPipes_32 rfl (lv_at hl 0 rfl) ?_
  refine xi_sub hx hb d_oc_windedPipes_33 ?_
  refine lv_aload_n hx hb d_oc_windedPipes_34 rfl (lv_at hl 1 rfl) ?_
  refine va_get (D := (dC, dI)) (ci := 5) (v := .ref (s0)) (C := "OrganConsole") (T := T_oc) (N := 10) hx hb htb in_oc hown hK hP 0 rfl rfl 1 (by decide) (htb _ tw_188) (fun _ h9 => h9) rfl d_oc_windedPipes_35 ?_
  refine va_get (D := (dC, dI)) (ci := 3) (v := .ref (s4)) (C := "OrganConsole$Stops") (T := T_st) (N := 9) hx hb htb in_st hown hK hP 6 rfl rfl 3 (by decide) (htb _ tw_102) (fun _ h9 => h9) rfl d_oc_windedPipes_38 ?_
  refine lv_iload_n hx hb d_oc_windedPipes_41 rfl (lv_at hl 2 rfl) ?_
  refine xa_iald hx hb hK hP 10 0 rfl rfl k (by omega) (by omega) (by decide) d_oc_windedPipes_42 ?_
  refine lv_iload_n hx hb d_oc_windedPipes_43 rfl (lv_at hl 0 rfl) ?_
  refine xi_sub hx hb d_oc_windedPipes_44 ?_
  refine pcV hx hb hml hown htb (c_ke_reachedBetween l dC dI cI cL cZ k0 k1 k2 k3 k4 g fr tt sh nc tb hok ((fd) k) (((fl) k) - ((fs) k)) (((fh) k) - ((fs) k)) (by omega) (by omega) (by omega) (by omega) (by omega) (by omega)) tw_620 tw_621 tw_622 tw_35 tw_623 3 (by decide +kernel) rfl rfl ⟨Nat.le_of_ble_eq_true rfl, Nat.le_of_ble_eq_true rfl⟩ ⟨Nat.zero_le _, Nat.zero_le _⟩ [.int (iI ((fd) k)), .int (iI (((fl) k) - ((fs) k))), .int (iI (((fh) k) - ((fs) k)))] (PN_V (q0 := 1) (ci := 1) (ws := [(k0, .inr (1, [.ref (k1), .ref (k2), .ref (k3), .ref (k4), .int (iI (((nc : Nat) : Int))), .long (bL (tb))])), (k1, .inl (cL, 5, .inr (.inl (aB (g))))), (k2, .inl (cI, 16, .inl (aI (fr)))), (k3, .inl (cI, 16, .inl (aI (tt)))), (k4, .inl (cI, 16, .inl (aI (sh))))]) hP (hP.sub [1, 2, 3, 4, 5] rfl) hK hN rfl rfl) rfl hl.1 rfl (Nat.le_of_ble_eq_true rfl) d_oc_windedPipes_45 ?_
  have q_1 : iI (((rb g fr tt sh tb nc ((fd) k) (((fl) k) - ((fs) k)) (((fh) k) - ((fs) k)) : Nat) : Int)) = iI (((wpi g fr tt sh tb nc fd fs fl fh k : Nat) : Int)) := by
    rfl
  rw [q_1]
  exact W.iret (v := iI (((wpi g fr tt sh tb nc fd fs fl fh k : Nat) : Int))) hx hb hr (fun t ht hW => ⟨rfl, ht⟩) t_nil d_oc_windedPipes_48

set_option maxHeartbeats 200000 in
set_option maxRecDepth 100000 in
theorem c_oc_openPipes (l : Launch) (dC : Nat → ClassId) (dI : Nat → Nat → Nat) (cI cL cZ : ClassId) (o0 l0 : Nat) (lv cu pe : Int) (lk fo : Bool) (li : Nat → Int) (k0 k1 k2 k3 k4 : Nat) (g : Nat → Nat → Bool) (fr tt sh : Nat → Int) (nc : Nat) (tb : Nat → Bool) (hok : kwOk g fr tt sh nc) (s0 s1 s2 s3 s4 s5 s6 s7 : Nat) (fd fs fl fh ft fc : Nat → Int) (go : Nat → Nat → Bool) (n : Nat) (kn : Nat → Bool) (hn : n ≤ 48) (hft : ∀ s, 0 ≤ ft s ∧ ft s ≤ 3) (hfc : ∀ s, 0 ≤ fc s ∧ fc s ≤ 2) (hsb : ∀ s, 0 ≤ fd s ∧ fd s < 5 ∧ -24 ≤ fs s ∧ fs s ≤ 24 ∧ 0 ≤ fl s ∧ fl s ≤ 96 ∧ 0 ≤ fh s ∧ fh s ≤ 96) (m0 m1 : Nat) (row : Nat → Nat → Bool) (fm : Int) (r0 : Nat) (nf : Int) (c0 c1 c2 c3 c4 : Nat) (fv : Nat → Int) (fz : Nat → Bool) (rw9 : Nat → Nat → Bool) (fw : Int) (d0 d1 d2 d3 d4 : Nat) (gw : Nat → Int) (gz : Nat → Bool) (rx9 : Nat → Nat → Bool) (fx : Int) (hnf : nf = -1 ∨ nf = 0 ∨ nf = 1) (hv : ∀ p, 0 ≤ fv p ∧ fv p ≤ 100000) (hgw : ∀ p, 0 ≤ gw p ∧ gw p ≤ 100000) (hlv : 0 ≤ lv ∧ lv ≤ 7) (hcu : -1 ≤ cu ∧ cu < fm) (hpe : 0 ≤ pe ∧ pe ≤ 15) (hfm : 0 ≤ fm ∧ fm ≤ 100) (hli : ∀ j, 0 ≤ li j ∧ li j ≤ 2) : Met l y_oc_openPipes (Cond.code y_oc_openPipes prog_1_method_40_code 5 (some .int) :: TB) ({ frames := 4, cells := 0, slots := 0, locals := 96 }) (va_Pc [.ref (o0)] (PN dC dI [(o0, .inr (5, [.ref (k0), .ref (s0), .ref (m0), .ref (r0), .ref (l0), .int (iI (lv)), .int (iI (cu)), .int (iI (pe)), .int (bI (lk)), .int (bI (fo))])), (k0, .inr (1, [.ref (k1), .ref (k2), .ref (k3), .ref (k4), .int (iI (((nc : Nat) : Int))), .long (bL (tb))])), (k1, .inl (cL, 5, .inr (.inl (aB (g))))), (k2, .inl (cI, 16, .inl (aI (fr)))), (k3, .inl (cI, 16, .inl (aI (tt)))), (k4, .inl (cI, 16, .inl (aI (sh)))), (s0, .inr (3, [.ref (s1), .ref (s2), .ref (s3), .ref (s4), .ref (s5), .ref (s6), .ref (s7), .int (iI (((n : Nat) : Int))), .long (bL (kn))])), (s1, .inl (cI, 48, .inl (aI (fd)))), (s2, .inl (cI, 48, .inl (aI (fs)))), (s3, .inl (cI, 48, .inl (aI (fl)))), (s4, .inl (cI, 48, .inl (aI (fh)))), (s5, .inl (cI, 48, .inl (aI (ft)))), (s6, .inl (cI, 48, .inl (aI (fc)))), (s7, .inl (cL, 5, .inr (.inl (aB (go))))), (m0, .inr (2, [.ref (m1), .int (iI (fm))])), (m1, .inl (cL, 443, .inr (.inl (aB (row))))), (r0, .inr (4, [.ref (c0), .ref (d0), .int (iI (nf))])), (c0, .inr (0, [.ref (c1), .ref (c2), .ref (c3)])), (c1, .inl (cI, 9, .inl (aI (fv)))), (c2, .inl (cZ, 9, .inl (aZ (fz)))), (c3, .inr (2, [.ref (c4), .int (iI (fw))])), (c4, .inl (cL, 443, .inr (.inl (aB (rw9))))), (d0, .inr (0, [.ref (d1), .ref (d2), .ref (d3)])), (d1, .inl (cI, 9, .inl (aI (gw)))), (d2, .inl (cZ, 9, .inl (aZ (gz)))), (d3, .inr (2, [.ref (d4), .int (iI (fx))])), (d4, .inl (cL, 443, .inr (.inl (aB (rx9))))), (l0, .inl (cI, 40, .inl (aI (li))))] [(cI, .int), (cL, .long), (cZ, .boolean)])) (k2_QcV (.int (iI (((opi (spk fo n kn row pe) (wpi g fr tt sh tb nc fd fs fl fh) n : Nat) : Int))))) 0 0 (fun _ => False) := by
  refine Met.ofW (cc := prog_1_method_40_code) (maxL := 5) (ret := (some .int)) (by decide) rfl ?_
  intro p e s m args below meth c s₁ B hml hv
  obtain ⟨ha, hP, hK, hN⟩ := hv
  have hx := B.exec
  have hb := B.bytes
  have hr := B.returns
  have htb : ∀ w ∈ TB, w.before args s = true := fun w h => atoms_spec (ws := Cond.code y_oc_openPipes prog_1_method_40_code 5 (some .int) :: TB) B.pre w (List.mem_cons_of_mem _ h)
  have hown : s.vm.findClass "OrganConsole" = some m.cls := findClass_of_methodNamed B.named
  have hlocks := B.notSynchronized
  have hl := lv_entry ([.ref (o0)]) (n := 5) (Nat.le_of_ble_eq_true rfl)
  refine W.eq (g2 := F0 m 0 _ []) (by rw [ha]; exact lg_entry_eq m ([.ref (o0)]) 5) ?_
  generalize (lg_sl ([.ref (o0)]) ++ List.replicate (5 - (lg_sl ([.ref (o0)])).length) Slot.unset).toArray = ls at hl ⊢
  have hl : lv_has ls 5 [(0, .ref (o0))] := hl
  refine lv_aload_n hx hb d_oc_openPipes_0 rfl (lv_at hl 0 rfl) ?_
  refine pcV hx hb hml hown htb (c_oc_speaking l dC dI cI cL cZ o0 l0 lv cu pe lk fo li k0 k1 k2 k3 k4 g fr tt sh nc tb hok s0 s1 s2 s3 s4 s5 s6 s7 fd fs fl fh ft fc go n kn hn hft hfc hsb m0 m1 row fm r0 nf c0 c1 c2 c3 c4 fv fz rw9 fw d0 d1 d2 d3 d4 gw gz rx9 fx hnf hv hgw hlv hcu hpe hfm hli ) tw_607 tw_609 tw_11 tw_34 tw_610 0 (by decide +kernel) rfl rfl ⟨Nat.le_of_ble_eq_true rfl, Nat.le_of_ble_eq_true rfl⟩ ⟨Nat.zero_le _, Nat.zero_le _⟩ [] (PW_V (q0 := 0) (ci := 5) hP hP hK rfl rfl) rfl hl.1 rfl (Nat.le_of_ble_eq_true rfl) d_oc_openPipes_1 ?_
  refine lv_lstore_n hx hb d_oc_openPipes_4 rfl hl (by decide) rfl (fun ls hl => ?_)
  have hl : lv_has ls 5 [(1, .long (bL (spk fo n kn row pe))), (0, .ref (o0))] := hl
  refine lv_iconst (v := iI (0)) hx hb d_oc_openPipes_5 rfl ?_
  refine lv_istore_n hx hb d_oc_openPipes_6 rfl hl (by decide) rfl (fun ls hl => ?_)
  have hl : lv_has ls 5 [(3, .int (iI (0))), (1, .long (bL (spk fo n kn row pe))), (0, .ref (o0))] := hl
  refine lv_iconst (v := iI (0)) hx hb d_oc_openPipes_7 rfl ?_
  refine lv_istore hx hb d_oc_openPipes_8 hl (by decide) rfl (fun ls hl => ?_)
  have hl : lv_has ls 5 [(4, .int (iI (0))), (3, .int (iI (0))), (1, .long (bL (spk fo n kn row pe))), (0, .ref (o0))] := hl
  have q_1 : iI (0) = iI (((opi (spk fo n kn row pe) (wpi g fr tt sh tb nc fd fs fl fh) (0) : Nat) : Int)) := congrArg iI (by first | rfl | (rw [opi_t (by assumption)]; omega) | (rw [opi_f (by assumption)]))
  have q_2 : iI (0) = iI ((((0) : Nat) : Int)) := congrArg iI (by omega)
  have hl : lv_has ls 5 [(4, .int (iI ((((0) : Nat) : Int)))), (3, .int (iI (((opi (spk fo n kn row pe) (wpi g fr tt sh tb nc fd fs fl fh) (0) : Nat) : Int)))), (1, .long (bL (spk fo n kn row pe))), (0, .ref (o0))] := lv_eq9 hl (congr (congrArg List.cons (congrArg (fun z => ((4 : Nat), Value.int z)) q_2)) (congr (congrArg List.cons (congrArg (fun z => ((3 : Nat), Value.int z)) q_1)) (congr (congrArg List.cons (Eq.refl ((1 : Nat), Value.long (bL (spk fo n kn row pe))))) (congr (congrArg List.cons (Eq.refl ((0 : Nat), Value.ref (o0)))) (rfl)))))
  have L10 : ∀ (fu : Nat) (k : Nat), n - k < fu → k ≤ n → ∀ ls : Array Slot, lv_has ls 5 [(3, .int (iI (((opi (spk fo n kn row pe) (wpi g fr tt sh tb nc fd fs fl fh) k : Nat) : Int)))), (4, .int (iI (((k : Nat) : Int)))), (1, .long (bL (spk fo n kn row pe))), (0, .ref (o0))] → W p l e (headSpec (Cond.code y_oc_openPipes prog_1_method_40_code 5 (some .int) :: TB) ({ frames := 4, cells := 0, slots := 0, locals := 96 })).room s m args below meth c s.heap [] 0 0 (MQ below (k2_QcV (.int (iI (((opi (spk fo n kn row pe) (wpi g fr tt sh tb nc fd fs fl fh) n : Nat) : Int))))) args s 0 0 (fun _ => False)) (F0 m 10 ls []) := by
    intro fu
    induction fu with
    | zero => intro k hfu; exact absurd hfu (Nat.not_lt_zero _)
    | succ fu ih10 =>
      intro k hfu hk ls hl
      refine lv_iload hx hb d_oc_openPipes_10 (lv_at hl 1 rfl) ?_
      refine lv_aload_n hx hb d_oc_openPipes_12 rfl (lv_at hl 3 rfl) ?_
      refine va_get (D := (dC, dI)) (ci := 5) (v := .ref (s0)) (C := "OrganConsole") (T := T_oc) (N := 10) hx hb htb in_oc hown hK hP 0 rfl rfl 1 (by decide) (htb _ tw_188) (fun _ h9 => h9) rfl d_oc_openPipes_13 ?_
      refine va_get (D := (dC, dI)) (ci := 3) (v := .int (iI (((n : Nat) : Int)))) (C := "OrganConsole$Stops") (T := T_st) (N := 9) hx hb htb in_st hown hK hP 6 rfl rfl 7 (by decide) (htb _ tw_110) (fun _ h9 => h9) rfl d_oc_openPipes_16 ?_
      refine xi_icmp_ge (tgt := 46) hx hb ⟨by omega, by omega⟩ ⟨by omega, by omega⟩ d_oc_openPipes_19 (by decide) (fun u_3 => ?_) (fun u_3 => ?_)
      · skip
        refine lv_iload_n hx hb d_oc_openPipes_46 rfl (lv_at hl 0 rfl) ?_
        have q_4 : iI (((opi (spk fo n kn row pe) (wpi g fr tt sh tb nc fd fs fl fh) k : Nat) : Int)) = iI (((opi (spk fo n kn row pe) (wpi g fr tt sh tb nc fd fs fl fh) n : Nat) : Int)) := by
          have : n = k := by omega
          subst this
          rfl
        rw [q_4]
        exact W.iret (v := iI (((opi (spk fo n kn row pe) (wpi g fr tt sh tb nc fd fs fl fh) n : Nat) : Int))) hx hb hr (fun t ht hW => ⟨rfl, ht⟩) t_nil d_oc_openPipes_47
      · skip
        refine lv_lload_n hx hb d_oc_openPipes_22 rfl (lv_at hl 2 rfl) ?_
        refine lv_iload hx hb d_oc_openPipes_23 (lv_at hl 1 rfl) ?_
        refine pcS hx hb hml hown htb (c_oc_has l (spk fo n kn row pe) (k) _ (by omega) (by omega)) tw_427 tw_428 tw_34 tw_429 2 (by decide +kernel) rfl rfl ⟨Nat.le_of_ble_eq_true rfl, Nat.le_of_ble_eq_true rfl⟩ ⟨Nat.zero_le _, Nat.zero_le _⟩ [.long (bL (spk fo n kn row pe)), .int (iI (((k : Nat) : Int)))] ⟨fun _ _ _ _ q => q, fun U _ _ => ⟨rfl, trivial⟩⟩ rfl hl.1 rfl (Nat.le_of_ble_eq_true rfl) d_oc_openPipes_25 ?_
        refine xz_if_eq (tgt := 40) hx hb d_oc_openPipes_28 (by decide) (fun u_5 => ?_) (fun u_5 => ?_)
        · skip
          refine lv_iinc (k := 1) (v := iI (((k : Nat) : Int) + 1)) hx hb d_oc_openPipes_40 hl rfl (iI_add _ _) (by decide) rfl (fun ls hl => ?_)
          have hl : lv_has ls 5 [(4, .int (iI (((k : Nat) : Int) + 1))), (3, .int (iI (((opi (spk fo n kn row pe) (wpi g fr tt sh tb nc fd fs fl fh) k : Nat) : Int)))), (1, .long (bL (spk fo n kn row pe))), (0, .ref (o0))] := hl
          refine lv_goto (tgt := 10) hx hb d_oc_openPipes_43 (by decide) ?_
          have q_6 : iI (((opi (spk fo n kn row pe) (wpi g fr tt sh tb nc fd fs fl fh) k : Nat) : Int)) = iI (((opi (spk fo n kn row pe) (wpi g fr tt sh tb nc fd fs fl fh) (k + 1) : Nat) : Int)) := congrArg iI (by first | rfl | (rw [opi_t (by assumption)]; omega) | (rw [opi_f (by assumption)]))
          have q_7 : iI (((k : Nat) : Int) + 1) = iI ((((k + 1) : Nat) : Int)) := congrArg iI (by omega)
          have hl : lv_has ls 5 [(4, .int (iI ((((k + 1) : Nat) : Int)))), (3, .int (iI (((opi (spk fo n kn row pe) (wpi g fr tt sh tb nc fd fs fl fh) (k + 1) : Nat) : Int)))), (1, .long (bL (spk fo n kn row pe))), (0, .ref (o0))] := lv_eq9 hl (congr (congrArg List.cons (congrArg (fun z => ((4 : Nat), Value.int z)) q_7)) (congr (congrArg List.cons (congrArg (fun z => ((3 : Nat), Value.int z)) q_6)) (congr (congrArg List.cons (Eq.refl ((1 : Nat), Value.long (bL (spk fo n kn row pe))))) (congr (congrArg List.cons (Eq.refl ((0 : Nat), Value.ref (o0)))) (rfl)))))
          exact ih10 (k + 1) (by omega) (by omega) _ (lv_sub hl [1, 0, 2, 3] rfl)
        · skip
          have ho := opi_le (f := spk fo n kn row pe) (w := wpi g fr tt sh tb nc fd fs fl fh) (fun j => rb_le _ _ _ _ _ _ _ _ _) k
          have hw9 : wpi g fr tt sh tb nc fd fs fl fh k ≤ 128 := rb_le _ _ _ _ _ _ _ _ _
          refine lv_iload_n hx hb d_oc_openPipes_31 rfl (lv_at hl 0 rfl) ?_
          refine lv_aload_n hx hb d_oc_openPipes_32 rfl (lv_at hl 3 rfl) ?_
          refine lv_iload hx hb d_oc_openPipes_33 (lv_at hl 1 rfl) ?_
          refine pcV hx hb hml hown htb (c_oc_windedPipes l dC dI cI cL cZ o0 l0 lv cu pe lk fo li k0 k1 k2 k3 k4 g fr tt sh nc tb hok s0 s1 s2 s3 s4 s5 s6 s7 fd fs fl fh ft fc go n kn hn hft hfc hsb m0 m1 row fm r0 nf c0 c1 c2 c3 c4 fv fz rw9 fw d0 d1 d2 d3 d4 gw gz rx9 fx hnf hv hgw hlv hcu hpe hfm hli (k) _ (by omega) (by omega)) tw_616 tw_618 tw_12 tw_34 tw_619 1 (by decide +kernel) rfl rfl ⟨Nat.le_of_ble_eq_true rfl, Nat.le_of_ble_eq_true rfl⟩ ⟨Nat.zero_le _, Nat.zero_le _⟩ [.int (iI (((k : Nat) : Int)))] (PN_V (q0 := 0) (ci := 5) hP hP hK hN rfl rfl) rfl hl.1 rfl (Nat.le_of_ble_eq_true rfl) d_oc_openPipes_35 ?_
          refine xi_add hx hb d_oc_openPipes_38 ?_
          refine lv_istore_n hx hb d_oc_openPipes_39 rfl hl (by decide) rfl (fun ls hl => ?_)
          have hl : lv_has ls 5 [(3, .int (iI ((((opi (spk fo n kn row pe) (wpi g fr tt sh tb nc fd fs fl fh) k : Nat) : Int)) + (((wpi g fr tt sh tb nc fd fs fl fh (k) : Nat) : Int))))), (4, .int (iI (((k : Nat) : Int)))), (1, .long (bL (spk fo n kn row pe))), (0, .ref (o0))] := hl
          refine lv_iinc (k := 1) (v := iI (((k : Nat) : Int) + 1)) hx hb d_oc_openPipes_40 hl rfl (iI_add _ _) (by decide) rfl (fun ls hl => ?_)
          have hl : lv_has ls 5 [(4, .int (iI (((k : Nat) : Int) + 1))), (3, .int (iI ((((opi (spk fo n kn row pe) (wpi g fr tt sh tb nc fd fs fl fh) k : Nat) : Int)) + (((wpi g fr tt sh tb nc fd fs fl fh (k) : Nat) : Int))))), (1, .long (bL (spk fo n kn row pe))), (0, .ref (o0))] := hl
          refine lv_goto (tgt := 10) hx hb d_oc_openPipes_43 (by decide) ?_
          have q_8 : iI ((((opi (spk fo n kn row pe) (wpi g fr tt sh tb nc fd fs fl fh) k : Nat) : Int)) + (((wpi g fr tt sh tb nc fd fs fl fh (k) : Nat) : Int))) = iI (((opi (spk fo n kn row pe) (wpi g fr tt sh tb nc fd fs fl fh) (k + 1) : Nat) : Int)) := congrArg iI (by first | rfl | (rw [opi_t (by assumption)]; omega) | (rw [opi_f (by assumption)]))
          have q_9 : iI (((k : Nat) : Int) + 1) = iI ((((k + 1) : Nat) : Int)) := congrArg iI (by omega)
          have hl : lv_has ls 5 [(4, .int (iI ((((k + 1) : Nat) : Int)))), (3, .int (iI (((opi (spk fo n kn row pe) (wpi g fr tt sh tb nc fd fs fl fh) (k + 1) : Nat) : Int)))), (1, .long (bL (spk fo n kn row pe))), (0, .ref (o0))] := lv_eq9 hl (congr (congrArg List.cons (congrArg (fun z => ((4 : Nat), Value.int z)) q_9)) (congr (congrArg List.cons (congrArg (fun z => ((3 : Nat), Value.int z)) q_8)) (congr (congrArg List.cons (Eq.refl ((1 : Nat), Value.long (bL (spk fo n kn row pe))))) (congr (congrArg List.cons (Eq.refl ((0 : Nat), Value.ref (o0)))) (rfl)))))
          exact ih10 (k + 1) (by omega) (by omega) _ (lv_sub hl [1, 0, 2, 3] rfl)
  exact L10 ((n - (0)) + 1) (0) (Nat.lt_succ_self _) (Nat.zero_le _) _ (lv_sub hl [1, 0, 2, 3] rfl)

