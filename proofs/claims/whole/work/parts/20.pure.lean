/-! pure methods of numbers and bits -/
set_option maxHeartbeats 200000 in
set_option maxRecDepth 100000 in
theorem c_jm_max (l : Launch) (a b : Int) (ha0 : inI a) (hb0 : inI b) : Met l y_jm_max (Cond.code y_jm_max prog_13_method_65_code 2 (some .int) :: TB) ({ frames := 0, cells := 0, slots := 0, locals := 0 }) (va_Pc [.int (iI (a)), .int (iI (b))] (fun U => True)) (k2_QcV (.int (iI (max a b)))) 0 0 (fun _ => False) := by
  refine va_MetF (cc := prog_13_method_65_code) (maxL := 2) (ret := (some .int)) (by decide +kernel) rfl ?_
  intro p e s m args below meth c s₁ B hml hv
  obtain ⟨ha, -⟩ := hv
  have hx := B.exec
  have hb := B.bytes
  have hr := B.returns
  have htb : ∀ w ∈ TB, w.before args s = true := fun w h => atoms_spec (ws := Cond.code y_jm_max prog_13_method_65_code 2 (some .int) :: TB) B.pre w (List.mem_cons_of_mem _ h)
  have hown : s.vm.findClass "java/lang/Math" = some m.cls := findClass_of_methodNamed B.named
  have hlocks := B.notSynchronized
  have hl := lv_entry ([.int (iI (a)), .int (iI (b))]) (n := 2) (Nat.le_of_ble_eq_true rfl)
  refine W.eq (g2 := F0 m 0 _ []) (by rw [ha]; exact lg_entry_eq m ([.int (iI (a)), .int (iI (b))]) 2) ?_
  generalize (lg_sl ([.int (iI (a)), .int (iI (b))]) ++ List.replicate (2 - (lg_sl ([.int (iI (a)), .int (iI (b))])).length) Slot.unset).toArray = ls at hl ⊢
  have hl : lv_has ls 2 [(0, .int (iI (a))), (1, .int (iI (b)))] := hl
  obtain ⟨ha1, ha2⟩ := ha0
  obtain ⟨hb1, hb2⟩ := hb0
  refine lv_iload_n hx hb d_jm_max_0 rfl (lv_at hl 0 rfl) ?_
  refine lv_iload_n hx hb d_jm_max_1 rfl (lv_at hl 1 rfl) ?_
  refine xi_icmp_lt (tgt := 9) hx hb ⟨by omega, by omega⟩ ⟨by omega, by omega⟩ d_jm_max_2 (by decide) (fun u_1 => ?_) (fun u_1 => ?_)
  · skip
    refine lv_iload_n hx hb d_jm_max_9 rfl (lv_at hl 1 rfl) ?_
    have q_2 : iI (b) = iI (max a b) := by
      congr 1; omega
    rw [q_2]
    exact W.iret (v := iI (max a b)) hx hb hr (fun t ht hW => ⟨rfl, ht⟩) t_nil d_jm_max_10
  · skip
    refine lv_iload_n hx hb d_jm_max_5 rfl (lv_at hl 0 rfl) ?_
    refine lv_goto (tgt := 10) hx hb d_jm_max_6 (by decide) ?_
    have q_3 : iI (a) = iI (max a b) := by
      congr 1; omega
    rw [q_3]
    exact W.iret (v := iI (max a b)) hx hb hr (fun t ht hW => ⟨rfl, ht⟩) t_nil d_jm_max_10

set_option maxHeartbeats 200000 in
set_option maxRecDepth 100000 in
theorem c_jm_min (l : Launch) (a b : Int) (ha0 : inI a) (hb0 : inI b) : Met l y_jm_min (Cond.code y_jm_min prog_13_method_69_code 2 (some .int) :: TB) ({ frames := 0, cells := 0, slots := 0, locals := 0 }) (va_Pc [.int (iI (a)), .int (iI (b))] (fun U => True)) (k2_QcV (.int (iI (min a b)))) 0 0 (fun _ => False) := by
  refine va_MetF (cc := prog_13_method_69_code) (maxL := 2) (ret := (some .int)) (by decide +kernel) rfl ?_
  intro p e s m args below meth c s₁ B hml hv
  obtain ⟨ha, -⟩ := hv
  have hx := B.exec
  have hb := B.bytes
  have hr := B.returns
  have htb : ∀ w ∈ TB, w.before args s = true := fun w h => atoms_spec (ws := Cond.code y_jm_min prog_13_method_69_code 2 (some .int) :: TB) B.pre w (List.mem_cons_of_mem _ h)
  have hown : s.vm.findClass "java/lang/Math" = some m.cls := findClass_of_methodNamed B.named
  have hlocks := B.notSynchronized
  have hl := lv_entry ([.int (iI (a)), .int (iI (b))]) (n := 2) (Nat.le_of_ble_eq_true rfl)
  refine W.eq (g2 := F0 m 0 _ []) (by rw [ha]; exact lg_entry_eq m ([.int (iI (a)), .int (iI (b))]) 2) ?_
  generalize (lg_sl ([.int (iI (a)), .int (iI (b))]) ++ List.replicate (2 - (lg_sl ([.int (iI (a)), .int (iI (b))])).length) Slot.unset).toArray = ls at hl ⊢
  have hl : lv_has ls 2 [(0, .int (iI (a))), (1, .int (iI (b)))] := hl
  obtain ⟨ha1, ha2⟩ := ha0
  obtain ⟨hb1, hb2⟩ := hb0
  refine lv_iload_n hx hb d_jm_min_0 rfl (lv_at hl 0 rfl) ?_
  refine lv_iload_n hx hb d_jm_min_1 rfl (lv_at hl 1 rfl) ?_
  refine xi_icmp_gt (tgt := 9) hx hb ⟨by omega, by omega⟩ ⟨by omega, by omega⟩ d_jm_min_2 (by decide) (fun u_1 => ?_) (fun u_1 => ?_)
  · skip
    refine lv_iload_n hx hb d_jm_min_9 rfl (lv_at hl 1 rfl) ?_
    have q_2 : iI (b) = iI (min a b) := by
      congr 1; omega
    rw [q_2]
    exact W.iret (v := iI (min a b)) hx hb hr (fun t ht hW => ⟨rfl, ht⟩) t_nil d_jm_min_10
  · skip
    refine lv_iload_n hx hb d_jm_min_5 rfl (lv_at hl 0 rfl) ?_
    refine lv_goto (tgt := 10) hx hb d_jm_min_6 (by decide) ?_
    have q_3 : iI (a) = iI (min a b) := by
      congr 1; omega
    rw [q_3]
    exact W.iret (v := iI (min a b)) hx hb hr (fun t ht hW => ⟨rfl, ht⟩) t_nil d_jm_min_10

set_option maxHeartbeats 200000 in
set_option maxRecDepth 100000 in
theorem c_oc_has (l : Launch) (f : Nat → Bool) (k : Nat) (z : Int) (hz : z = (k : Int)) (hk : k < 64) : Met l y_oc_has (Cond.code y_oc_has prog_1_method_43_code 3 (some .boolean) :: TB) ({ frames := 0, cells := 0, slots := 0, locals := 0 }) (va_Pc [.long (bL (f)), .int (iI (z))] (fun U => True)) (k2_QcV (.int (bI (f k)))) 0 0 (fun _ => False) := by
  refine Met.ofW (cc := prog_1_method_43_code) (maxL := 3) (ret := (some .boolean)) (by decide) rfl ?_
  intro p e s m args below meth c s₁ B hml hv
  obtain ⟨ha, -⟩ := hv
  have hx := B.exec
  have hb := B.bytes
  have hr := B.returns
  have htb : ∀ w ∈ TB, w.before args s = true := fun w h => atoms_spec (ws := Cond.code y_oc_has prog_1_method_43_code 3 (some .boolean) :: TB) B.pre w (List.mem_cons_of_mem _ h)
  have hown : s.vm.findClass "OrganConsole" = some m.cls := findClass_of_methodNamed B.named
  have hlocks := B.notSynchronized
  have hl := lv_entry ([.long (bL (f)), .int (iI (z))]) (n := 3) (Nat.le_of_ble_eq_true rfl)
  refine W.eq (g2 := F0 m 0 _ []) (by rw [ha]; exact lg_entry_eq m ([.long (bL (f)), .int (iI (z))]) 3) ?_
  generalize (lg_sl ([.long (bL (f)), .int (iI (z))]) ++ List.replicate (3 - (lg_sl ([.long (bL (f)), .int (iI (z))])).length) Slot.unset).toArray = ls at hl ⊢
  have hl : lv_has ls 3 [(0, .long (bL (f))), (2, .int (iI (z)))] := hl
  refine lv_lload_n hx hb d_oc_has_0 rfl (lv_at hl 0 rfl) ?_
  refine lv_iload_n hx hb d_oc_has_1 rfl (lv_at hl 1 rfl) ?_
  refine xb_ushr (f := f) hx hb k hz hk d_oc_has_2 ?_
  refine lv_lconst (v := bL (fun j => decide (j = 0))) hx hb d_oc_has_3 bL_1 ?_
  refine xb_and (f := fun j => decide (j + k < 64) && (f) (j + k)) (g := fun j => decide (j = 0)) hx hb d_oc_has_4 ?_
  refine lv_lconst (v := bL (fun _ => false)) hx hb d_oc_has_5 bL_0 ?_
  refine xb_cmp0_eq (f := fun j => (fun j => decide (j + k < 64) && (f) (j + k)) j && (fun j => decide (j = 0)) j) (tgt := 14) hx hb d_oc_has_6 d_oc_has_7 (by decide) (fun u_1 => ?_) (fun u_1 => ?_)
  · skip
    refine lv_iconst (v := iI (0)) hx hb d_oc_has_14 rfl ?_
    have q_2 : iI (0) = bI (f k) := by
      exact has_f hk (by assumption)
    rw [q_2]
    exact W.zret (ty := .boolean) (v := bI (f k)) hx hb hr (bI_narrow _) (fun t ht hW => ⟨rfl, ht⟩) t_nil d_oc_has_15
  · skip
    refine lv_iconst (v := iI (1)) hx hb d_oc_has_10 rfl ?_
    refine lv_goto (tgt := 15) hx hb d_oc_has_11 (by decide) ?_
    have q_3 : iI (1) = bI (f k) := by
      exact has_t hk (by assumption)
    rw [q_3]
    exact W.zret (ty := .boolean) (v := bI (f k)) hx hb hr (bI_narrow _) (fun t ht hW => ⟨rfl, ht⟩) t_nil d_oc_has_15

set_option maxHeartbeats 200000 in
set_option maxRecDepth 100000 in
theorem c_oc_with (l : Launch) (f : Nat → Bool) (k : Nat) (z : Int) (x : Bool) (hz : z = (k : Int)) (hk : k < 64) : Met l y_oc_with (Cond.code y_oc_with prog_1_method_44_code 6 (some .long) :: TB) ({ frames := 0, cells := 0, slots := 0, locals := 0 }) (va_Pc [.long (bL (f)), .int (iI (z)), .int (bI (x))] (fun U => True)) (k2_QcV (.long (bL (va_up f k x)))) 0 0 (fun _ => False) := by
  refine Met.ofW (cc := prog_1_method_44_code) (maxL := 6) (ret := (some .long)) (by decide) rfl ?_
  intro p e s m args below meth c s₁ B hml hv
  obtain ⟨ha, -⟩ := hv
  have hx := B.exec
  have hb := B.bytes
  have hr := B.returns
  have htb : ∀ w ∈ TB, w.before args s = true := fun w h => atoms_spec (ws := Cond.code y_oc_with prog_1_method_44_code 6 (some .long) :: TB) B.pre w (List.mem_cons_of_mem _ h)
  have hown : s.vm.findClass "OrganConsole" = some m.cls := findClass_of_methodNamed B.named
  have hlocks := B.notSynchronized
  have hl := lv_entry ([.long (bL (f)), .int (iI (z)), .int (bI (x))]) (n := 6) (Nat.le_of_ble_eq_true rfl)
  refine W.eq (g2 := F0 m 0 _ []) (by rw [ha]; exact lg_entry_eq m ([.long (bL (f)), .int (iI (z)), .int (bI (x))]) 6) ?_
  generalize (lg_sl ([.long (bL (f)), .int (iI (z)), .int (bI (x))]) ++ List.replicate (6 - (lg_sl ([.long (bL (f)), .int (iI (z)), .int (bI (x))])).length) Slot.unset).toArray = ls at hl ⊢
  have hl : lv_has ls 6 [(0, .long (bL (f))), (2, .int (iI (z))), (3, .int (bI (x)))] := hl
  refine lv_lconst (v := bL (fun j => decide (j = 0))) hx hb d_oc_with_0 bL_1 ?_
  refine lv_iload_n hx hb d_oc_with_1 rfl (lv_at hl 1 rfl) ?_
  refine xb_shl (f := fun j => decide (j = 0)) hx hb k hz hk d_oc_with_2 ?_
  refine lv_lstore hx hb d_oc_with_3 hl (by decide) rfl (fun ls hl => ?_)
  have hl : lv_has ls 6 [(4, .long (bL (fun j => decide (k ≤ j) && (fun j => decide (j = 0)) (j - k)))), (0, .long (bL (f))), (2, .int (iI (z))), (3, .int (bI (x)))] := hl
  refine lv_iload_n hx hb d_oc_with_5 rfl (lv_at hl 3 rfl) ?_
  refine xz_if_eq (tgt := 16) hx hb d_oc_with_6 (by decide) (fun u_1 => ?_) (fun u_1 => ?_)
  · skip
    refine lv_lload_n hx hb d_oc_with_16 rfl (lv_at hl 1 rfl) ?_
    refine lv_lload hx hb d_oc_with_17 (lv_at hl 0 rfl) ?_
    refine lv_ldc2 hx hb hown (htb _ tw_406) d_oc_with_19 ?_
    rw [bL_m1]
    refine xb_xor (f := fun j => decide (k ≤ j) && (fun j => decide (j = 0)) (j - k)) (g := fun _ => true) hx hb d_oc_with_22 ?_
    refine xb_and (f := f) (g := fun j => (fun j => decide (k ≤ j) && (fun j => decide (j = 0)) (j - k)) j ^^ (fun _ => true) j) hx hb d_oc_with_23 ?_
    have q_2 : bL (fun j => (f) j && (fun j => (fun j => decide (k ≤ j) && (fun j => decide (j = 0)) (j - k)) j ^^ (fun _ => true) j) j) = bL (va_up f k x) := by
      exact with_f (by assumption)
    rw [q_2]
    exact W.lret (v := bL (va_up f k x)) hx hb hr (fun t ht hW => ⟨rfl, ht⟩) t_nil d_oc_with_24
  · skip
    refine lv_lload_n hx hb d_oc_with_9 rfl (lv_at hl 1 rfl) ?_
    refine lv_lload hx hb d_oc_with_10 (lv_at hl 0 rfl) ?_
    refine xb_or (f := f) (g := fun j => decide (k ≤ j) && (fun j => decide (j = 0)) (j - k)) hx hb d_oc_with_12 ?_
    refine lv_goto (tgt := 24) hx hb d_oc_with_13 (by decide) ?_
    have q_3 : bL (fun j => (f) j || (fun j => decide (k ≤ j) && (fun j => decide (j = 0)) (j - k)) j) = bL (va_up f k x) := by
      exact with_t (by assumption)
    rw [q_3]
    exact W.lret (v := bL (va_up f k x)) hx hb hr (fun t ht hW => ⟨rfl, ht⟩) t_nil d_oc_with_24

set_option maxHeartbeats 200000 in
set_option maxRecDepth 100000 in
theorem c_jl_bitCount (l : Launch) (f : Nat → Bool) (hf : ∀ j, 64 ≤ j → f j = false) : Met l y_jl_bitCount (Cond.code y_jl_bitCount prog_12_method_50_code 2 (some .int) :: TB) ({ frames := 0, cells := 0, slots := 0, locals := 0 }) (va_Pc [.long (bL f)] (fun U => True)) (k2_QcV (.int (iI (((cnt f 64 : Nat) : Int))))) 0 0 (fun _ => False) := by
  refine va_MetF (cc := prog_12_method_50_code) (maxL := 2) (ret := (some .int)) (by decide +kernel) rfl ?_
  intro p e s m args below meth c s₁ B hml hv
  obtain ⟨ha, -⟩ := hv
  have hx := B.exec
  have hb := B.bytes
  have hr := B.returns
  have htb : ∀ w ∈ TB, w.before args s = true := fun w h => atoms_spec (ws := Cond.code y_jl_bitCount prog_12_method_50_code 2 (some .int) :: TB) B.pre w (List.mem_cons_of_mem _ h)
  have hown : s.vm.findClass "java/lang/Long" = some m.cls := findClass_of_methodNamed B.named
  have hlocks := B.notSynchronized
  have hl := lv_entry ([.long (bL f)]) (n := 2) (Nat.le_of_ble_eq_true rfl)
  refine W.eq (g2 := F0 m 0 _ []) (by rw [ha]; exact lg_entry_eq m ([.long (bL f)]) 2) ?_
  generalize (lg_sl ([.long (bL f)]) ++ List.replicate (2 - (lg_sl ([.long (bL f)])).length) Slot.unset).toArray = ls at hl ⊢
  have hl : lv_has ls 2 [(0, .long (bL f))] := hl
  refine lv_lload_n hx hb d_jl_bitCount_0 rfl (lv_at hl 0 rfl) ?_
  refine lv_lload_n hx hb d_jl_bitCount_1 rfl (lv_at hl 0 rfl) ?_
  refine lv_iconst (v := iI (1)) hx hb d_jl_bitCount_2 rfl ?_
  refine lv_lushr (v := ((bL f).toUInt64 >>> ((iI (1)).toInt64.toUInt64 &&& Int64.toUInt64 63)).toInt64) hx hb d_jl_bitCount_3 rfl ?_
  refine lv_ldc2 hx hb hown (htb _ tw_508) d_jl_bitCount_4 ?_
  refine lv_land hx hb d_jl_bitCount_7 ?_
  refine lv_lsub hx hb d_jl_bitCount_8 ?_
  have q_1 : (bL f) - ((((bL f).toUInt64 >>> ((iI (1)).toInt64.toUInt64 &&& Int64.toUInt64 63)).toInt64) &&& (6148914691236517205)) = lN (dg 2 (pg1 f) 32) := bc_1 hf
  rw [q_1]
  refine lv_lstore_n hx hb d_jl_bitCount_9 rfl hl (by decide) rfl (fun ls hl => ?_)
  have hl : lv_has ls 2 [(0, .long (lN (dg 2 (pg1 f) 32)))] := hl
  refine lv_lload_n hx hb d_jl_bitCount_10 rfl (lv_at hl 0 rfl) ?_
  refine lv_ldc2 hx hb hown (htb _ tw_509) d_jl_bitCount_11 ?_
  refine lv_land hx hb d_jl_bitCount_14 ?_
  refine lv_lload_n hx hb d_jl_bitCount_15 rfl (lv_at hl 0 rfl) ?_
  refine lv_iconst (v := iI (2)) hx hb d_jl_bitCount_16 rfl ?_
  refine lv_lushr (v := ((lN (dg 2 (pg1 f) 32)).toUInt64 >>> ((iI (2)).toInt64.toUInt64 &&& Int64.toUInt64 63)).toInt64) hx hb d_jl_bitCount_17 rfl ?_
  refine lv_ldc2 hx hb hown (htb _ tw_509) d_jl_bitCount_18 ?_
  refine lv_land hx hb d_jl_bitCount_21 ?_
  refine lv_ladd hx hb d_jl_bitCount_22 ?_
  have q_2 : ((lN (dg 2 (pg1 f) 32)) &&& (3689348814741910323)) + ((((lN (dg 2 (pg1 f) 32)).toUInt64 >>> ((iI (2)).toInt64.toUInt64 &&& Int64.toUInt64 63)).toInt64) &&& (3689348814741910323)) = lN (dg 4 (pg2 f) 16) := bc_2 hf
  rw [q_2]
  refine lv_lstore_n hx hb d_jl_bitCount_23 rfl hl (by decide) rfl (fun ls hl => ?_)
  have hl : lv_has ls 2 [(0, .long (lN (dg 4 (pg2 f) 16)))] := hl
  refine lv_lload_n hx hb d_jl_bitCount_24 rfl (lv_at hl 0 rfl) ?_
  refine lv_lload_n hx hb d_jl_bitCount_25 rfl (lv_at hl 0 rfl) ?_
  refine lv_iconst (v := iI (4)) hx hb d_jl_bitCount_26 rfl ?_
  refine lv_lushr (v := ((lN (dg 4 (pg2 f) 16)).toUInt64 >>> ((iI (4)).toInt64.toUInt64 &&& Int64.toUInt64 63)).toInt64) hx hb d_jl_bitCount_27 rfl ?_
  refine lv_ladd hx hb d_jl_bitCount_28 ?_
  refine lv_ldc2 hx hb hown (htb _ tw_510) d_jl_bitCount_29 ?_
  refine lv_land hx hb d_jl_bitCount_32 ?_
  have q_3 : ((lN (dg 4 (pg2 f) 16)) + (((lN (dg 4 (pg2 f) 16)).toUInt64 >>> ((iI (4)).toInt64.toUInt64 &&& Int64.toUInt64 63)).toInt64)) &&& (1085102592571150095) = lN (dg 8 (pg3 f) 8) := bc_3 hf
  rw [q_3]
  refine lv_lstore_n hx hb d_jl_bitCount_33 rfl hl (by decide) rfl (fun ls hl => ?_)
  have hl : lv_has ls 2 [(0, .long (lN (dg 8 (pg3 f) 8)))] := hl
  refine lv_lload_n hx hb d_jl_bitCount_34 rfl (lv_at hl 0 rfl) ?_
  refine lv_lload_n hx hb d_jl_bitCount_35 rfl (lv_at hl 0 rfl) ?_
  refine lv_bipush (v := iI (8)) hx hb d_jl_bitCount_36 (by decide +kernel) ?_
  refine lv_lushr (v := ((lN (dg 8 (pg3 f) 8)).toUInt64 >>> ((iI (8)).toInt64.toUInt64 &&& Int64.toUInt64 63)).toInt64) hx hb d_jl_bitCount_38 rfl ?_
  refine lv_ladd hx hb d_jl_bitCount_39 ?_
  have q_4 : (lN (dg 8 (pg3 f) 8)) + (((lN (dg 8 (pg3 f) 8)).toUInt64 >>> ((iI (8)).toInt64.toUInt64 &&& Int64.toUInt64 63)).toInt64) = lN (dg 8 (pg4 f) 8) := bc_4 hf
  rw [q_4]
  refine lv_lstore_n hx hb d_jl_bitCount_40 rfl hl (by decide) rfl (fun ls hl => ?_)
  have hl : lv_has ls 2 [(0, .long (lN (dg 8 (pg4 f) 8)))] := hl
  refine lv_lload_n hx hb d_jl_bitCount_41 rfl (lv_at hl 0 rfl) ?_
  refine lv_lload_n hx hb d_jl_bitCount_42 rfl (lv_at hl 0 rfl) ?_
  refine lv_bipush (v := iI (16)) hx hb d_jl_bitCount_43 (by decide +kernel) ?_
  refine lv_lushr (v := ((lN (dg 8 (pg4 f) 8)).toUInt64 >>> ((iI (16)).toInt64.toUInt64 &&& Int64.toUInt64 63)).toInt64) hx hb d_jl_bitCount_45 rfl ?_
  refine lv_ladd hx hb d_jl_bitCount_46 ?_
  have q_5 : (lN (dg 8 (pg4 f) 8)) + (((lN (dg 8 (pg4 f) 8)).toUInt64 >>> ((iI (16)).toInt64.toUInt64 &&& Int64.toUInt64 63)).toInt64) = lN (dg 8 (pg5 f) 8) := bc_5 hf
  rw [q_5]
  refine lv_lstore_n hx hb d_jl_bitCount_47 rfl hl (by decide) rfl (fun ls hl => ?_)
  have hl : lv_has ls 2 [(0, .long (lN (dg 8 (pg5 f) 8)))] := hl
  refine lv_lload_n hx hb d_jl_bitCount_48 rfl (lv_at hl 0 rfl) ?_
  refine lv_lload_n hx hb d_jl_bitCount_49 rfl (lv_at hl 0 rfl) ?_
  refine lv_bipush (v := iI (32)) hx hb d_jl_bitCount_50 (by decide +kernel) ?_
  refine lv_lushr (v := ((lN (dg 8 (pg5 f) 8)).toUInt64 >>> ((iI (32)).toInt64.toUInt64 &&& Int64.toUInt64 63)).toInt64) hx hb d_jl_bitCount_52 rfl ?_
  refine lv_ladd hx hb d_jl_bitCount_53 ?_
  have q_6 : (lN (dg 8 (pg5 f) 8)) + (((lN (dg 8 (pg5 f) 8)).toUInt64 >>> ((iI (32)).toInt64.toUInt64 &&& Int64.toUInt64 63)).toInt64) = lN (dg 8 (pg6 f) 8) := bc_6 hf
  rw [q_6]
  refine lv_lstore_n hx hb d_jl_bitCount_54 rfl hl (by decide) rfl (fun ls hl => ?_)
  have hl : lv_has ls 2 [(0, .long (lN (dg 8 (pg6 f) 8)))] := hl
  refine lv_lload_n hx hb d_jl_bitCount_55 rfl (lv_at hl 0 rfl) ?_
  refine lv_l2i (v := (lN (dg 8 (pg6 f) 8)).toInt32) hx hb d_jl_bitCount_56 rfl ?_
  refine lv_bipush (v := iI (127)) hx hb d_jl_bitCount_57 (by decide +kernel) ?_
  refine lv_iand hx hb d_jl_bitCount_59 ?_
  have q_7 : ((lN (dg 8 (pg6 f) 8)).toInt32) &&& (iI (127)) = iI (((cnt f 64 : Nat) : Int)) := by
    exact bc_7 hf
  rw [q_7]
  exact W.iret (v := iI (((cnt f 64 : Nat) : Int))) hx hb hr (fun t ht hW => ⟨rfl, ht⟩) t_nil d_jl_bitCount_60

theorem c_jl_bitCount' (l : Launch) (f : Nat → Bool) : Met l y_jl_bitCount (Cond.code y_jl_bitCount prog_12_method_50_code 2 (some .int) :: TB) ({ frames := 0, cells := 0, slots := 0, locals := 0 }) (va_Pc [.long (bL (f))] (fun U => True)) (k2_QcV (.int (iI ((cnt f 64 : Nat) : Int)))) 0 0 (fun _ => False) := by
  have h := c_jl_bitCount l (fun j => decide (j < 64) && f j) (fun j hj => by simp [show ¬ j < 64 by omega])
  rw [← bc_f f, cnt_ext (g := f) (fun j hj => by simp [hj])] at h
  exact h

set_option maxHeartbeats 200000 in
set_option maxRecDepth 100000 in
theorem c_me_generalRow (l : Launch) (a b : Int) : Met l y_me_generalRow (Cond.code y_me_generalRow prog_4_method_2_code 2 (some .int) :: TB) ({ frames := 0, cells := 0, slots := 0, locals := 0 }) (va_Pc [.int (iI (a)), .int (iI (b))] (fun U => True)) (k2_QcV (.int (iI (a * 16 + b)))) 0 0 (fun _ => False) := by
  refine Met.ofW (cc := prog_4_method_2_code) (maxL := 2) (ret := (some .int)) (by decide) rfl ?_
  intro p e s m args below meth c s₁ B hml hv
  obtain ⟨ha, -⟩ := hv
  have hx := B.exec
  have hb := B.bytes
  have hr := B.returns
  have htb : ∀ w ∈ TB, w.before args s = true := fun w h => atoms_spec (ws := Cond.code y_me_generalRow prog_4_method_2_code 2 (some .int) :: TB) B.pre w (List.mem_cons_of_mem _ h)
  have hown : s.vm.findClass "OrganConsole$Memory" = some m.cls := findClass_of_methodNamed B.named
  have hlocks := B.notSynchronized
  have hl := lv_entry ([.int (iI (a)), .int (iI (b))]) (n := 2) (Nat.le_of_ble_eq_true rfl)
  refine W.eq (g2 := F0 m 0 _ []) (by rw [ha]; exact lg_entry_eq m ([.int (iI (a)), .int (iI (b))]) 2) ?_
  generalize (lg_sl ([.int (iI (a)), .int (iI (b))]) ++ List.replicate (2 - (lg_sl ([.int (iI (a)), .int (iI (b))])).length) Slot.unset).toArray = ls at hl ⊢
  have hl : lv_has ls 2 [(0, .int (iI (a))), (1, .int (iI (b)))] := hl
  refine lv_iload_n hx hb d_me_generalRow_0 rfl (lv_at hl 0 rfl) ?_
  refine lv_bipush (v := iI (16)) hx hb d_me_generalRow_1 (by decide +kernel) ?_
  refine xi_mul hx hb d_me_generalRow_3 ?_
  refine lv_iload_n hx hb d_me_generalRow_4 rfl (lv_at hl 1 rfl) ?_
  refine xi_add hx hb d_me_generalRow_5 ?_
  have q_1 : iI (((a) * (16)) + (b)) = iI (a * 16 + b) := by
    congr 1
  rw [q_1]
  exact W.iret (v := iI (a * 16 + b)) hx hb hr (fun t ht hW => ⟨rfl, ht⟩) t_nil d_me_generalRow_6

set_option maxHeartbeats 200000 in
set_option maxRecDepth 100000 in
theorem c_me_divisionalRow (l : Launch) (a b : Int) : Met l y_me_divisionalRow (Cond.code y_me_divisionalRow prog_4_method_3_code 2 (some .int) :: TB) ({ frames := 0, cells := 0, slots := 0, locals := 0 }) (va_Pc [.int (iI (a)), .int (iI (b))] (fun U => True)) (k2_QcV (.int (iI (128 + a * 25 + b)))) 0 0 (fun _ => False) := by
  refine Met.ofW (cc := prog_4_method_3_code) (maxL := 2) (ret := (some .int)) (by decide) rfl ?_
  intro p e s m args below meth c s₁ B hml hv
  obtain ⟨ha, -⟩ := hv
  have hx := B.exec
  have hb := B.bytes
  have hr := B.returns
  have htb : ∀ w ∈ TB, w.before args s = true := fun w h => atoms_spec (ws := Cond.code y_me_divisionalRow prog_4_method_3_code 2 (some .int) :: TB) B.pre w (List.mem_cons_of_mem _ h)
  have hown : s.vm.findClass "OrganConsole$Memory" = some m.cls := findClass_of_methodNamed B.named
  have hlocks := B.notSynchronized
  have hl := lv_entry ([.int (iI (a)), .int (iI (b))]) (n := 2) (Nat.le_of_ble_eq_true rfl)
  refine W.eq (g2 := F0 m 0 _ []) (by rw [ha]; exact lg_entry_eq m ([.int (iI (a)), .int (iI (b))]) 2) ?_
  generalize (lg_sl ([.int (iI (a)), .int (iI (b))]) ++ List.replicate (2 - (lg_sl ([.int (iI (a)), .int (iI (b))])).length) Slot.unset).toArray = ls at hl ⊢
  have hl : lv_has ls 2 [(0, .int (iI (a))), (1, .int (iI (b)))] := hl
  refine lv_sipush (v := iI (128)) hx hb d_me_divisionalRow_0 (by decide +kernel) ?_
  refine lv_iload_n hx hb d_me_divisionalRow_3 rfl (lv_at hl 0 rfl) ?_
  refine lv_bipush (v := iI (25)) hx hb d_me_divisionalRow_4 (by decide +kernel) ?_
  refine xi_mul hx hb d_me_divisionalRow_6 ?_
  refine xi_add hx hb d_me_divisionalRow_7 ?_
  refine lv_iload_n hx hb d_me_divisionalRow_8 rfl (lv_at hl 1 rfl) ?_
  refine xi_add hx hb d_me_divisionalRow_9 ?_
  have q_1 : iI (((128) + ((a) * (25))) + (b)) = iI (128 + a * 25 + b) := by
    congr 1
  rw [q_1]
  exact W.iret (v := iI (128 + a * 25 + b)) hx hb hr (fun t ht hW => ⟨rfl, ht⟩) t_nil d_me_divisionalRow_10

set_option maxHeartbeats 200000 in
set_option maxRecDepth 100000 in
theorem c_me_frameRow (l : Launch) (a : Int) : Met l y_me_frameRow (Cond.code y_me_frameRow prog_4_method_4_code 1 (some .int) :: TB) ({ frames := 0, cells := 0, slots := 0, locals := 0 }) (va_Pc [.int (iI (a))] (fun U => True)) (k2_QcV (.int (iI (328 + a)))) 0 0 (fun _ => False) := by
  refine Met.ofW (cc := prog_4_method_4_code) (maxL := 1) (ret := (some .int)) (by decide) rfl ?_
  intro p e s m args below meth c s₁ B hml hv
  obtain ⟨ha, -⟩ := hv
  have hx := B.exec
  have hb := B.bytes
  have hr := B.returns
  have htb : ∀ w ∈ TB, w.before args s = true := fun w h => atoms_spec (ws := Cond.code y_me_frameRow prog_4_method_4_code 1 (some .int) :: TB) B.pre w (List.mem_cons_of_mem _ h)
  have hown : s.vm.findClass "OrganConsole$Memory" = some m.cls := findClass_of_methodNamed B.named
  have hlocks := B.notSynchronized
  have hl := lv_entry ([.int (iI (a))]) (n := 1) (Nat.le_of_ble_eq_true rfl)
  refine W.eq (g2 := F0 m 0 _ []) (by rw [ha]; exact lg_entry_eq m ([.int (iI (a))]) 1) ?_
  generalize (lg_sl ([.int (iI (a))]) ++ List.replicate (1 - (lg_sl ([.int (iI (a))])).length) Slot.unset).toArray = ls at hl ⊢
  have hl : lv_has ls 1 [(0, .int (iI (a)))] := hl
  refine lv_sipush (v := iI (328)) hx hb d_me_frameRow_0 (by decide +kernel) ?_
  refine lv_iload_n hx hb d_me_frameRow_3 rfl (lv_at hl 0 rfl) ?_
  refine xi_add hx hb d_me_frameRow_4 ?_
  have q_1 : iI ((328) + (a)) = iI (328 + a) := by
    congr 1
  rw [q_1]
  exact W.iret (v := iI (328 + a)) hx hb hr (fun t ht hW => ⟨rfl, ht⟩) t_nil d_me_frameRow_5

set_option maxHeartbeats 200000 in
set_option maxRecDepth 100000 in
theorem c_me_stepRow (l : Launch) (a : Int) : Met l y_me_stepRow (Cond.code y_me_stepRow prog_4_method_5_code 1 (some .int) :: TB) ({ frames := 0, cells := 0, slots := 0, locals := 0 }) (va_Pc [.int (iI (a))] (fun U => True)) (k2_QcV (.int (iI (428 + a - 1)))) 0 0 (fun _ => False) := by
  refine Met.ofW (cc := prog_4_method_5_code) (maxL := 1) (ret := (some .int)) (by decide) rfl ?_
  intro p e s m args below meth c s₁ B hml hv
  obtain ⟨ha, -⟩ := hv
  have hx := B.exec
  have hb := B.bytes
  have hr := B.returns
  have htb : ∀ w ∈ TB, w.before args s = true := fun w h => atoms_spec (ws := Cond.code y_me_stepRow prog_4_method_5_code 1 (some .int) :: TB) B.pre w (List.mem_cons_of_mem _ h)
  have hown : s.vm.findClass "OrganConsole$Memory" = some m.cls := findClass_of_methodNamed B.named
  have hlocks := B.notSynchronized
  have hl := lv_entry ([.int (iI (a))]) (n := 1) (Nat.le_of_ble_eq_true rfl)
  refine W.eq (g2 := F0 m 0 _ []) (by rw [ha]; exact lg_entry_eq m ([.int (iI (a))]) 1) ?_
  generalize (lg_sl ([.int (iI (a))]) ++ List.replicate (1 - (lg_sl ([.int (iI (a))])).length) Slot.unset).toArray = ls at hl ⊢
  have hl : lv_has ls 1 [(0, .int (iI (a)))] := hl
  refine lv_sipush (v := iI (428)) hx hb d_me_stepRow_0 (by decide +kernel) ?_
  refine lv_iload_n hx hb d_me_stepRow_3 rfl (lv_at hl 0 rfl) ?_
  refine xi_add hx hb d_me_stepRow_4 ?_
  refine lv_iconst (v := iI (1)) hx hb d_me_stepRow_5 rfl ?_
  refine xi_sub hx hb d_me_stepRow_6 ?_
  have q_1 : iI (((428) + (a)) - (1)) = iI (428 + a - 1) := by
    congr 1
  rw [q_1]
  exact W.iret (v := iI (428 + a - 1)) hx hb hr (fun t ht hW => ⟨rfl, ht⟩) t_nil d_me_stepRow_7

set_option maxHeartbeats 200000 in
set_option maxRecDepth 100000 in
theorem c_ke_shifted (l : Launch) (f : Nat → Bool) (z w : Int) (hf : ∀ j, 61 ≤ j → f j = false) (h1 : -24 ≤ z) (h2 : z ≤ 24) (hw : w = 0 ∨ w = 1) : Met l y_ke_shifted (Cond.code y_ke_shifted prog_3_method_7_code 5 (some .long) :: TB) ({ frames := 0, cells := 0, slots := 0, locals := 0 }) (va_Pc [.long (bL (f)), .int (iI (z)), .int (iI (w))] (fun U => True)) (k2_QcV (.long (bL (shf f z w)))) 0 0 (fun _ => False) := by
  refine Met.ofW (cc := prog_3_method_7_code) (maxL := 5) (ret := (some .long)) (by decide) rfl ?_
  intro p e s m args below meth c s₁ B hml hv
  obtain ⟨ha, -⟩ := hv
  have hx := B.exec
  have hb := B.bytes
  have hr := B.returns
  have htb : ∀ w ∈ TB, w.before args s = true := fun w h => atoms_spec (ws := Cond.code y_ke_shifted prog_3_method_7_code 5 (some .long) :: TB) B.pre w (List.mem_cons_of_mem _ h)
  have hown : s.vm.findClass "OrganConsole$Keywork" = some m.cls := findClass_of_methodNamed B.named
  have hlocks := B.notSynchronized
  have hl := lv_entry ([.long (bL (f)), .int (iI (z)), .int (iI (w))]) (n := 5) (Nat.le_of_ble_eq_true rfl)
  refine W.eq (g2 := F0 m 0 _ []) (by rw [ha]; exact lg_entry_eq m ([.long (bL (f)), .int (iI (z)), .int (iI (w))]) 5) ?_
  generalize (lg_sl ([.long (bL (f)), .int (iI (z)), .int (iI (w))]) ++ List.replicate (5 - (lg_sl ([.long (bL (f)), .int (iI (z)), .int (iI (w))])).length) Slot.unset).toArray = ls at hl ⊢
  have hl : lv_has ls 5 [(0, .long (bL (f))), (2, .int (iI (z))), (3, .int (iI (w)))] := hl
  refine lv_iload_n hx hb d_ke_shifted_0 rfl (lv_at hl 1 rfl) ?_
  refine lv_bipush (v := iI (24)) hx hb d_ke_shifted_1 (by decide +kernel) ?_
  refine xi_add hx hb d_ke_shifted_3 ?_
  refine lv_istore hx hb d_ke_shifted_4 hl (by decide) rfl (fun ls hl => ?_)
  have hl : lv_has ls 5 [(4, .int (iI ((z) + (24)))), (0, .long (bL (f))), (2, .int (iI (z))), (3, .int (iI (w)))] := hl
  refine lv_iload_n hx hb d_ke_shifted_6 rfl (lv_at hl 3 rfl) ?_
  refine xi_if_ne (tgt := 15) hx hb ⟨by omega, by omega⟩ d_ke_shifted_7 (by decide) (fun u_1 => ?_) (fun u_1 => ?_)
  · skip
    refine lv_iload hx hb d_ke_shifted_15 (lv_at hl 0 rfl) ?_
    refine xi_if_ne (tgt := 24) hx hb ⟨by omega, by omega⟩ d_ke_shifted_17 (by decide) (fun u_2 => ?_) (fun u_2 => ?_)
    · skip
      refine lv_lload_n hx hb d_ke_shifted_24 rfl (lv_at hl 1 rfl) ?_
      refine lv_bipush (v := iI (64)) hx hb d_ke_shifted_25 (by decide +kernel) ?_
      refine lv_iload hx hb d_ke_shifted_27 (lv_at hl 0 rfl) ?_
      refine xi_sub hx hb d_ke_shifted_29 ?_
      refine xb_ushr (f := f) hx hb ((64) - ((z) + (24))).toNat (by omega) (by omega) d_ke_shifted_30 ?_
      have q_3 : bL (fun j => decide (j + ((64) - ((z) + (24))).toNat < 64) && (f) (j + ((64) - ((z) + (24))).toNat)) = bL (shf f z w) := by
        exact shf_1 hf (by omega) (by omega) h1 h2
      rw [q_3]
      exact W.lret (v := bL (shf f z w)) hx hb hr (fun t ht hW => ⟨rfl, ht⟩) t_nil d_ke_shifted_31
    · skip
      refine lv_lconst (v := bL (fun _ => false)) hx hb d_ke_shifted_20 bL_0 ?_
      refine lv_goto (tgt := 31) hx hb d_ke_shifted_21 (by decide) ?_
      have q_4 : bL (fun _ => false) = bL (shf f z w) := by
        exact shf_1z hf (by omega) (by omega)
      rw [q_4]
      exact W.lret (v := bL (shf f z w)) hx hb hr (fun t ht hW => ⟨rfl, ht⟩) t_nil d_ke_shifted_31
  · skip
    refine lv_lload_n hx hb d_ke_shifted_10 rfl (lv_at hl 1 rfl) ?_
    refine lv_iload hx hb d_ke_shifted_11 (lv_at hl 0 rfl) ?_
    refine xb_shl (f := f) hx hb ((z) + (24)).toNat (by omega) (by omega) d_ke_shifted_13 ?_
    have q_5 : bL (fun j => decide (((z) + (24)).toNat ≤ j) && (f) (j - ((z) + (24)).toNat)) = bL (shf f z w) := by
      exact shf_0 h1 (by omega) (by omega)
    rw [q_5]
    exact W.lret (v := bL (shf f z w)) hx hb hr (fun t ht hW => ⟨rfl, ht⟩) t_nil d_ke_shifted_14

set_option maxHeartbeats 200000 in
set_option maxRecDepth 100000 in
theorem c_ke_span (l : Launch) (a b w : Int) (h1 : -2000 ≤ a) (h2 : a ≤ 2000) (h3 : -2000 ≤ b) (h4 : b ≤ 2000) (hw : w = 0 ∨ w = 1) : Met l y_ke_span (Cond.code y_ke_span prog_3_method_8_code 6 (some .long) :: TB) ({ frames := 1, cells := 0, slots := 0, locals := 21 }) (va_Pc [.int (iI (a)), .int (iI (b)), .int (iI (w))] (fun U => True)) (k2_QcV (.long (bL (spn a b w)))) 0 0 (fun _ => False) := by
  refine Met.ofW (cc := prog_3_method_8_code) (maxL := 6) (ret := (some .long)) (by decide) rfl ?_
  intro p e s m args below meth c s₁ B hml hv
  obtain ⟨ha, -⟩ := hv
  have hx := B.exec
  have hb := B.bytes
  have hr := B.returns
  have htb : ∀ w ∈ TB, w.before args s = true := fun w h => atoms_spec (ws := Cond.code y_ke_span prog_3_method_8_code 6 (some .long) :: TB) B.pre w (List.mem_cons_of_mem _ h)
  have hown : s.vm.findClass "OrganConsole$Keywork" = some m.cls := findClass_of_methodNamed B.named
  have hlocks := B.notSynchronized
  have hl := lv_entry ([.int (iI (a)), .int (iI (b)), .int (iI (w))]) (n := 6) (Nat.le_of_ble_eq_true rfl)
  refine W.eq (g2 := F0 m 0 _ []) (by rw [ha]; exact lg_entry_eq m ([.int (iI (a)), .int (iI (b)), .int (iI (w))]) 6) ?_
  generalize (lg_sl ([.int (iI (a)), .int (iI (b)), .int (iI (w))]) ++ List.replicate (6 - (lg_sl ([.int (iI (a)), .int (iI (b)), .int (iI (w))])).length) Slot.unset).toArray = ls at hl ⊢
  have hl : lv_has ls 6 [(0, .int (iI (a))), (1, .int (iI (b))), (2, .int (iI (w)))] := hl
  refine lv_bipush (v := iI (24)) hx hb d_ke_span_0 (by decide +kernel) ?_
  refine lv_iload_n hx hb d_ke_span_2 rfl (lv_at hl 2 rfl) ?_
  refine lv_bipush (v := iI (64)) hx hb d_ke_span_3 (by decide +kernel) ?_
  refine xi_mul hx hb d_ke_span_5 ?_
  refine xi_sub hx hb d_ke_span_6 ?_
  refine lv_istore_n hx hb d_ke_span_7 rfl hl (by decide) rfl (fun ls hl => ?_)
  have hl : lv_has ls 6 [(3, .int (iI ((24) - ((w) * (64))))), (0, .int (iI (a))), (1, .int (iI (b))), (2, .int (iI (w)))] := hl
  refine lv_iload_n hx hb d_ke_span_8 rfl (lv_at hl 1 rfl) ?_
  refine lv_iload_n hx hb d_ke_span_9 rfl (lv_at hl 0 rfl) ?_
  refine xi_add hx hb d_ke_span_10 ?_
  refine lv_iconst (v := iI (0)) hx hb d_ke_span_11 rfl ?_
  refine pcS hx hb hml hown htb (c_jm_max l ((a) + ((24) - ((w) * (64)))) (0) ⟨by omega, by omega⟩ ⟨by omega, by omega⟩) tw_635 tw_636 tw_49 tw_637 2 (by decide +kernel) rfl rfl ⟨Nat.le_of_ble_eq_true rfl, Nat.le_of_ble_eq_true rfl⟩ ⟨Nat.zero_le _, Nat.zero_le _⟩ [.int (iI ((a) + ((24) - ((w) * (64))))), .int (iI (0))] ⟨fun _ _ _ _ q => q, fun U _ _ => ⟨rfl, trivial⟩⟩ rfl hl.1 rfl (Nat.le_of_ble_eq_true rfl) d_ke_span_12 ?_
  refine lv_istore hx hb d_ke_span_15 hl (by decide) rfl (fun ls hl => ?_)
  have hl : lv_has ls 6 [(4, .int (iI (max ((a) + ((24) - ((w) * (64)))) (0)))), (3, .int (iI ((24) - ((w) * (64))))), (0, .int (iI (a))), (1, .int (iI (b))), (2, .int (iI (w)))] := hl
  refine lv_iload_n hx hb d_ke_span_17 rfl (lv_at hl 3 rfl) ?_
  refine lv_iload_n hx hb d_ke_span_18 rfl (lv_at hl 1 rfl) ?_
  refine xi_add hx hb d_ke_span_19 ?_
  refine lv_bipush (v := iI (63)) hx hb d_ke_span_20 (by decide +kernel) ?_
  refine pcS hx hb hml hown htb (c_jm_min l ((b) + ((24) - ((w) * (64)))) (63) ⟨by omega, by omega⟩ ⟨by omega, by omega⟩) tw_638 tw_639 tw_49 tw_640 2 (by decide +kernel) rfl rfl ⟨Nat.le_of_ble_eq_true rfl, Nat.le_of_ble_eq_true rfl⟩ ⟨Nat.zero_le _, Nat.zero_le _⟩ [.int (iI ((b) + ((24) - ((w) * (64))))), .int (iI (63))] ⟨fun _ _ _ _ q => q, fun U _ _ => ⟨rfl, trivial⟩⟩ rfl hl.1 rfl (Nat.le_of_ble_eq_true rfl) d_ke_span_22 ?_
  refine lv_istore hx hb d_ke_span_25 hl (by decide) rfl (fun ls hl => ?_)
  have hl : lv_has ls 6 [(5, .int (iI (min ((b) + ((24) - ((w) * (64)))) (63)))), (4, .int (iI (max ((a) + ((24) - ((w) * (64)))) (0)))), (3, .int (iI ((24) - ((w) * (64))))), (0, .int (iI (a))), (1, .int (iI (b))), (2, .int (iI (w)))] := hl
  refine lv_iload hx hb d_ke_span_27 (lv_at hl 1 rfl) ?_
  refine lv_iload hx hb d_ke_span_29 (lv_at hl 0 rfl) ?_
  refine xi_icmp_le (tgt := 36) hx hb ⟨by omega, by omega⟩ ⟨by omega, by omega⟩ d_ke_span_31 (by decide) (fun u_1 => ?_) (fun u_1 => ?_)
  · skip
    refine lv_ldc2 hx hb hown (htb _ tw_641) d_ke_span_36 ?_
    rw [bL_m1]
    refine lv_iload hx hb d_ke_span_39 (lv_at hl 1 rfl) ?_
    refine xb_shl (f := fun _ => true) hx hb (max ((a) + ((24) - ((w) * (64)))) (0)).toNat (by omega) (by omega) d_ke_span_41 ?_
    refine lv_ldc2 hx hb hown (htb _ tw_641) d_ke_span_42 ?_
    rw [bL_m1]
    refine lv_bipush (v := iI (63)) hx hb d_ke_span_45 (by decide +kernel) ?_
    refine lv_iload hx hb d_ke_span_47 (lv_at hl 0 rfl) ?_
    refine xi_sub hx hb d_ke_span_49 ?_
    refine xb_ushr (f := fun _ => true) hx hb ((63) - (min ((b) + ((24) - ((w) * (64)))) (63))).toNat (by omega) (by omega) d_ke_span_50 ?_
    refine xb_and (f := fun j => decide ((max ((a) + ((24) - ((w) * (64)))) (0)).toNat ≤ j) && (fun _ => true) (j - (max ((a) + ((24) - ((w) * (64)))) (0)).toNat)) (g := fun j => decide (j + ((63) - (min ((b) + ((24) - ((w) * (64)))) (63))).toNat < 64) && (fun _ => true) (j + ((63) - (min ((b) + ((24) - ((w) * (64)))) (63))).toNat)) hx hb d_ke_span_51 ?_
    have q_2 : bL (fun j => (fun j => decide ((max ((a) + ((24) - ((w) * (64)))) (0)).toNat ≤ j) && (fun _ => true) (j - (max ((a) + ((24) - ((w) * (64)))) (0)).toNat)) j && (fun j => decide (j + ((63) - (min ((b) + ((24) - ((w) * (64)))) (63))).toNat < 64) && (fun _ => true) (j + ((63) - (min ((b) + ((24) - ((w) * (64)))) (63))).toNat)) j) = bL (spn a b w) := by
      exact spn_1 (by omega) (by omega) (by omega)
    rw [q_2]
    exact W.lret (v := bL (spn a b w)) hx hb hr (fun t ht hW => ⟨rfl, ht⟩) t_nil d_ke_span_52
  · skip
    refine lv_lconst (v := bL (fun _ => false)) hx hb d_ke_span_34 bL_0 ?_
    have q_3 : bL (fun _ => false) = bL (spn a b w) := by
      exact spn_0 (by omega)
    rw [q_3]
    exact W.lret (v := bL (spn a b w)) hx hb hr (fun t ht hW => ⟨rfl, ht⟩) t_nil d_ke_span_35
