/-! pure methods of numbers and bits -/
set_option maxHeartbeats 4000000 in
set_option maxRecDepth 100000 in
theorem c_jm_max (l : Launch) (a b : Int) (ha0 : inI a) (hb0 : inI b) : Met l y_jm_max (Cond.code y_jm_max prog_13_method_65_code 2 (some .int) :: TB) ({ frames := 0, cells := 0, slots := 0, locals := 0 }) (va_Pc [.int (iI (a)), .int (iI (b))] (fun U => True)) (k2_QcV (.int (iI (max a b)))) 0 0 (fun _ => False) := by
  refine va_MetF (cc := prog_13_method_65_code) (maxL := 2) (ret := (some .int)) (by decide +kernel) rfl ?_
  intro p e s m args below meth c s₁ B hml hv
  obtain ⟨ha, -⟩ := hv
  have hx := B.exec
  have hb := B.bytes
  have hr := B.returns
  have htb : ∀ w ∈ TB, w.before args s = true := fun w h => atoms_spec (ws := Cond.code y_jm_max prog_13_method_65_code 2 (some .int) :: TB) B.pre w (List.mem_cons_of_mem _ h)
  have hown : s.vm.findClass "java/lang/Math" = some m.cls := findClass_of_methodNamed B.named
  have hlocks := B.notSynchronized
  have hl := lv_entry ([.int (iI (a)), .int (iI (b))]) (n := 2) (Nat.le_of_ble_eq_true rfl)
  refine W.eq (g2 := F0 m 0 _ []) (by rw [ha]; exact lg_entry_eq m ([.int (iI (a)), .int (iI (b))]) 2) ?_
  generalize (lg_sl ([.int (iI (a)), .int (iI (b))]) ++ List.replicate (2 - (lg_sl ([.int (iI (a)), .int (iI (b))])).length) Slot.unset).toArray = ls at hl ⊢
  have hl : lv_has ls 2 [(0, .int (iI (a))), (1, .int (iI (b)))] := hl
  obtain ⟨ha1, ha2⟩ := ha0
  obtain ⟨hb1, hb2⟩ := hb0
  refine lv_iload_n hx hb d_jm_max_0 rfl (lv_at hl 0 rfl) ?_
  refine lv_iload_n hx hb d_jm_max_1 rfl (lv_at hl 1 rfl) ?_
  refine xi_icmp_lt (tgt := 9) hx hb ⟨by omega, by omega⟩ ⟨by omega, by omega⟩ d_jm_max_2 (by decide) (fun h1 => ?_) (fun h1 => ?_)
  · skip
    refine lv_iload_n hx hb d_jm_max_9 rfl (lv_at hl 1 rfl) ?_
    have q2 : iI (b) = iI (max a b) := by
      congr 1; omega
    rw [q2]
    exact W.iret (v := iI (max a b)) hx hb hr (fun t ht hW => ⟨rfl, ht⟩) t_nil d_jm_max_10
  · skip
    refine lv_iload_n hx hb d_jm_max_5 rfl (lv_at hl 0 rfl) ?_
    refine lv_goto (tgt := 10) hx hb d_jm_max_6 (by decide) ?_
    have q3 : iI (a) = iI (max a b) := by
      congr 1; omega
    rw [q3]
    exact W.iret (v := iI (max a b)) hx hb hr (fun t ht hW => ⟨rfl, ht⟩) t_nil d_jm_max_10

set_option maxHeartbeats 4000000 in
set_option maxRecDepth 100000 in
theorem c_jm_min (l : Launch) (a b : Int) (ha0 : inI a) (hb0 : inI b) : Met l y_jm_min (Cond.code y_jm_min prog_13_method_69_code 2 (some .int) :: TB) ({ frames := 0, cells := 0, slots := 0, locals := 0 }) (va_Pc [.int (iI (a)), .int (iI (b))] (fun U => True)) (k2_QcV (.int (iI (min a b)))) 0 0 (fun _ => False) := by
  refine va_MetF (cc := prog_13_method_69_code) (maxL := 2) (ret := (some .int)) (by decide +kernel) rfl ?_
  intro p e s m args below meth c s₁ B hml hv
  obtain ⟨ha, -⟩ := hv
  have hx := B.exec
  have hb := B.bytes
  have hr := B.returns
  have htb : ∀ w ∈ TB, w.before args s = true := fun w h => atoms_spec (ws := Cond.code y_jm_min prog_13_method_69_code 2 (some .int) :: TB) B.pre w (List.mem_cons_of_mem _ h)
  have hown : s.vm.findClass "java/lang/Math" = some m.cls := findClass_of_methodNamed B.named
  have hlocks := B.notSynchronized
  have hl := lv_entry ([.int (iI (a)), .int (iI (b))]) (n := 2) (Nat.le_of_ble_eq_true rfl)
  refine W.eq (g2 := F0 m 0 _ []) (by rw [ha]; exact lg_entry_eq m ([.int (iI (a)), .int (iI (b))]) 2) ?_
  generalize (lg_sl ([.int (iI (a)), .int (iI (b))]) ++ List.replicate (2 - (lg_sl ([.int (iI (a)), .int (iI (b))])).length) Slot.unset).toArray = ls at hl ⊢
  have hl : lv_has ls 2 [(0, .int (iI (a))), (1, .int (iI (b)))] := hl
  obtain ⟨ha1, ha2⟩ := ha0
  obtain ⟨hb1, hb2⟩ := hb0
  refine lv_iload_n hx hb d_jm_min_0 rfl (lv_at hl 0 rfl) ?_
  refine lv_iload_n hx hb d_jm_min_1 rfl (lv_at hl 1 rfl) ?_
  refine xi_icmp_gt (tgt := 9) hx hb ⟨by omega, by omega⟩ ⟨by omega, by omega⟩ d_jm_min_2 (by decide) (fun h1 => ?_) (fun h1 => ?_)
  · skip
    refine lv_iload_n hx hb d_jm_min_9 rfl (lv_at hl 1 rfl) ?_
    have q2 : iI (b) = iI (min a b) := by
      congr 1; omega
    rw [q2]
    exact W.iret (v := iI (min a b)) hx hb hr (fun t ht hW => ⟨rfl, ht⟩) t_nil d_jm_min_10
  · skip
    refine lv_iload_n hx hb d_jm_min_5 rfl (lv_at hl 0 rfl) ?_
    refine lv_goto (tgt := 10) hx hb d_jm_min_6 (by decide) ?_
    have q3 : iI (a) = iI (min a b) := by
      congr 1; omega
    rw [q3]
    exact W.iret (v := iI (min a b)) hx hb hr (fun t ht hW => ⟨rfl, ht⟩) t_nil d_jm_min_10

set_option maxHeartbeats 4000000 in
set_option maxRecDepth 100000 in
theorem c_oc_has (l : Launch) (f : Nat → Bool) (k : Nat) (z : Int) (hz : z = (k : Int)) (hk : k < 64) : Met l y_oc_has (Cond.code y_oc_has prog_1_method_43_code 3 (some .boolean) :: TB) ({ frames := 0, cells := 0, slots := 0, locals := 0 }) (va_Pc [.long (bL (f)), .int (iI (z))] (fun U => True)) (k2_QcV (.int (bI (f k)))) 0 0 (fun _ => False) := by
  refine Met.ofW (cc := prog_1_method_43_code) (maxL := 3) (ret := (some .boolean)) (by decide) rfl ?_
  intro p e s m args below meth c s₁ B hml hv
  obtain ⟨ha, -⟩ := hv
  have hx := B.exec
  have hb := B.bytes
  have hr := B.returns
  have htb : ∀ w ∈ TB, w.before args s = true := fun w h => atoms_spec (ws := Cond.code y_oc_has prog_1_method_43_code 3 (some .boolean) :: TB) B.pre w (List.mem_cons_of_mem _ h)
  have hown : s.vm.findClass "OrganConsole" = some m.cls := findClass_of_methodNamed B.named
  have hlocks := B.notSynchronized
  have hl := lv_entry ([.long (bL (f)), .int (iI (z))]) (n := 3) (Nat.le_of_ble_eq_true rfl)
  refine W.eq (g2 := F0 m 0 _ []) (by rw [ha]; exact lg_entry_eq m ([.long (bL (f)), .int (iI (z))]) 3) ?_
  generalize (lg_sl ([.long (bL (f)), .int (iI (z))]) ++ List.replicate (3 - (lg_sl ([.long (bL (f)), .int (iI (z))])).length) Slot.unset).toArray = ls at hl ⊢
  have hl : lv_has ls 3 [(0, .long (bL (f))), (2, .int (iI (z)))] := hl
  refine lv_lload_n hx hb d_oc_has_0 rfl (lv_at hl 0 rfl) ?_
  refine lv_iload_n hx hb d_oc_has_1 rfl (lv_at hl 1 rfl) ?_
  refine xb_ushr (f := f) hx hb k hz hk d_oc_has_2 ?_
  refine lv_lconst (v := bL (fun j => decide (j = 0))) hx hb d_oc_has_3 bL_1 ?_
  refine xb_and (f := fun j => decide (j + k < 64) && (f) (j + k)) (g := fun j => decide (j = 0)) hx hb d_oc_has_4 ?_
  refine lv_lconst (v := bL (fun _ => false)) hx hb d_oc_has_5 bL_0 ?_
  refine xb_cmp0_eq (f := fun j => (fun j => decide (j + k < 64) && (f) (j + k)) j && (fun j => decide (j = 0)) j) (tgt := 14) hx hb d_oc_has_6 d_oc_has_7 (by decide) (fun h1 => ?_) (fun h1 => ?_)
  · skip
    refine lv_iconst (v := iI (0)) hx hb d_oc_has_14 rfl ?_
    have q2 : iI (0) = bI (f k) := by
      first | exact has_t hk (by assumption) | exact has_f hk (by assumption)
    rw [q2]
    exact W.zret (ty := .boolean) (v := bI (f k)) hx hb hr (bI_narrow _) (fun t ht hW => ⟨rfl, ht⟩) t_nil d_oc_has_15
  · skip
    refine lv_iconst (v := iI (1)) hx hb d_oc_has_10 rfl ?_
    refine lv_goto (tgt := 15) hx hb d_oc_has_11 (by decide) ?_
    have q3 : iI (1) = bI (f k) := by
      first | exact has_t hk (by assumption) | exact has_f hk (by assumption)
    rw [q3]
    exact W.zret (ty := .boolean) (v := bI (f k)) hx hb hr (bI_narrow _) (fun t ht hW => ⟨rfl, ht⟩) t_nil d_oc_has_15
