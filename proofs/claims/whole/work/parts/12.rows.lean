/-! longs that are numbers -/
def inL (z : Int) : Prop := -9000000000000000000 ≤ z ∧ z ≤ 9000000000000000000
def sg (a b : Int) : Int := if b < a then 1 else if a = b then 0 else -1
theorem sg_in (a b : Int) : inI (sg a b) := by unfold sg inI; split <;> (try split) <;> omega
theorem sg_lt {a b : Int} : sg a b < 0 ↔ a < b := by unfold sg; split <;> (try split) <;> omega
theorem sg_ge {a b : Int} : 0 ≤ sg a b ↔ b ≤ a := by unfold sg; split <;> (try split) <;> omega
theorem sg_gt {a b : Int} : 0 < sg a b ↔ b < a := by unfold sg; split <;> (try split) <;> omega
theorem sg_le {a b : Int} : sg a b ≤ 0 ↔ a ≤ b := by unfold sg; split <;> (try split) <;> omega
theorem sg_eq {a b : Int} : sg a b = 0 ↔ a = b := by unfold sg; split <;> (try split) <;> omega
theorem lI_to {z : Int} (h : inL z) : (lI z).toInt = z := by have := h.1; have := h.2; exact Int64.toInt_ofInt_of_le (by omega) (by omega)
theorem lI_add (a b : Int) : lI a + lI b = lI (a + b) := (Int64.ofInt_add a b).symm
theorem lI_cmp {a b : Int} (ha : inL a) (hb : inL b) : lg_cmp (lI a) (lI b) = iI (sg a b) := by
  have h1 : lI b < lI a ↔ b < a := by rw [Int64.lt_iff_toInt_lt, lI_to ha, lI_to hb]
  have h2 : lI a = lI b ↔ a = b := by rw [← Int64.toInt_inj, lI_to ha, lI_to hb]
  unfold lg_cmp sg
  by_cases h : b < a
  · rw [if_pos (show lI a > lI b from h1.mpr h), if_pos h]
    decide +kernel
  · rw [if_neg (show ¬ lI a > lI b from fun z => h (h1.mp z)), if_neg h]
    by_cases h3 : a = b
    · rw [if_pos (h2.mpr h3), if_pos h3]
      decide +kernel
    · rw [if_neg (fun z => h3 (h2.mp z)), if_neg h3]
      decide +kernel
theorem iI_l {a : Int} (h : inI a) : (iI a).toInt64 = lI a := by
  have := h.1
  have := h.2
  apply Int64.toInt_inj.mp
  rw [Int32.toInt_toInt64, iI_to h.1 h.2, lI_to ⟨by omega, by omega⟩]
theorem lI_i (a : Int) : (lI a).toInt32 = iI a := Int64.toInt32_ofInt
theorem iI_ne0 {b : Int} (h : 0 < b ∧ b ≤ 2147483647) : ¬ iI b = 0 := by
  rw [← iI_0, iI_eq ⟨by omega, by omega⟩ inI_0]
  omega
theorem iI_div {a b : Int} (ha : 0 ≤ a ∧ a ≤ 2147483647) (hb : 0 < b ∧ b ≤ 2147483647) : iI a / iI b = iI (a / b) := by
  obtain ⟨x, rfl⟩ : ∃ x : Nat, a = (x : Int) := ⟨a.toNat, by omega⟩
  obtain ⟨y, rfl⟩ : ∃ y : Nat, b = (y : Int) := ⟨b.toNat, by omega⟩
  rw [iI_n, iI_n, pk_div (by omega) (by omega) (by omega), ← Int.natCast_ediv, iI_n]
theorem bL_cmp0 {f : Nat → Bool} : lg_cmp (bL f) (bL (fun _ => false)) = 0 ↔ ∀ j, j < 64 → f j = false := by
  have h0 := bL_0
  rw [← h0, ← bL_eq0]
  unfold lg_cmp
  by_cases h : (0 : Int64) < bL f
  · simp only [h, if_true]
    refine ⟨fun z => absurd z (by decide), fun z => ?_⟩
    rw [z] at h
    exact absurd h (by decide)
  · by_cases h2 : bL f = 0
    · simp only [h2]
      simp
    · simp only [h, h2, if_false]
      refine ⟨fun z => absurd z (by decide), fun z => absurd z id⟩
/-! rows of the kit in words of our own: ints by iI, booleans by bI, sets of bits by bL -/
section XI
variable {p : Program} {l : Launch} {e : Env} {R : Room} {s : State} {m : MethodId} {args : Array Value} {below : List Frame} {meth : Method} {c : Code} {H : Heap} {locs : List Loc} {cells slots : Nat} {Q : State → Prop}
variable {cc : ByteArray} {pc : Nat} {ls : Array Slot} {rest : List Value}

theorem xi_add (hexec : p.tables.exec = Jvm.exec) (hb : c.code = cc) {a b : Int} (hdg : decode cc pc = .ok (.iadd, 1)) (k : W p l e R s m args below meth c H locs cells slots Q (F0 m (pc + 1) ls (.int (iI (a + b)) :: rest))) : W p l e R s m args below meth c H locs cells slots Q (F0 m pc ls (.int (iI b) :: .int (iI a) :: rest)) :=
  lv_iadd hexec hb hdg (by rw [iI_add]; exact k)
theorem xi_sub (hexec : p.tables.exec = Jvm.exec) (hb : c.code = cc) {a b : Int} (hdg : decode cc pc = .ok (.isub, 1)) (k : W p l e R s m args below meth c H locs cells slots Q (F0 m (pc + 1) ls (.int (iI (a - b)) :: rest))) : W p l e R s m args below meth c H locs cells slots Q (F0 m pc ls (.int (iI b) :: .int (iI a) :: rest)) :=
  lv_isub hexec hb hdg (by rw [iI_sub]; exact k)
theorem xi_mul (hexec : p.tables.exec = Jvm.exec) (hb : c.code = cc) {a b : Int} (hdg : decode cc pc = .ok (.imul, 1)) (k : W p l e R s m args below meth c H locs cells slots Q (F0 m (pc + 1) ls (.int (iI (a * b)) :: rest))) : W p l e R s m args below meth c H locs cells slots Q (F0 m pc ls (.int (iI b) :: .int (iI a) :: rest)) :=
  lv_imul hexec hb hdg (by rw [iI_mul]; exact k)
theorem xl_i2l (hexec : p.tables.exec = Jvm.exec) (hb : c.code = cc) {a : Int} (ha : inI a) (hdg : decode cc pc = .ok (.i2l, 1)) (k : W p l e R s m args below meth c H locs cells slots Q (F0 m (pc + 1) ls (.long (lI a) :: rest))) : W p l e R s m args below meth c H locs cells slots Q (F0 m pc ls (.int (iI a) :: rest)) :=
  lv_i2l hexec hb hdg (iI_l ha) k
theorem xl_l2i (hexec : p.tables.exec = Jvm.exec) (hb : c.code = cc) {a : Int} (hdg : decode cc pc = .ok (.l2i, 1)) (k : W p l e R s m args below meth c H locs cells slots Q (F0 m (pc + 1) ls (.int (iI a) :: rest))) : W p l e R s m args below meth c H locs cells slots Q (F0 m pc ls (.long (lI a) :: rest)) :=
  lv_l2i hexec hb hdg (lI_i a) k
theorem xl_add (hexec : p.tables.exec = Jvm.exec) (hb : c.code = cc) {a b : Int} (hdg : decode cc pc = .ok (.ladd, 1)) (k : W p l e R s m args below meth c H locs cells slots Q (F0 m (pc + 1) ls (.long (lI (a + b)) :: rest))) : W p l e R s m args below meth c H locs cells slots Q (F0 m pc ls (.long (lI b) :: .long (lI a) :: rest)) :=
  lv_ladd hexec hb hdg (by rw [lI_add]; exact k)
theorem xl_cmp (hexec : p.tables.exec = Jvm.exec) (hb : c.code = cc) {a b : Int} (ha : inL a) (hb' : inL b) (hdg : decode cc pc = .ok (.lcmp, 1)) (k : W p l e R s m args below meth c H locs cells slots Q (F0 m (pc + 1) ls (.int (iI (sg a b)) :: rest))) : W p l e R s m args below meth c H locs cells slots Q (F0 m pc ls (.long (lI b) :: .long (lI a) :: rest)) :=
  W.lcmp hexec hb hdg (by rw [lI_cmp ha hb']; exact k)
theorem xi_div (hexec : p.tables.exec = Jvm.exec) (hb : c.code = cc) {a b : Int} (ha : 0 ≤ a ∧ a ≤ 2147483647) (hb' : 0 < b ∧ b ≤ 2147483647) (hdg : decode cc pc = .ok (.idiv, 1)) (k : W p l e R s m args below meth c H locs cells slots Q (F0 m (pc + 1) ls (.int (iI (a / b)) :: rest))) : W p l e R s m args below meth c H locs cells slots Q (F0 m pc ls (.int (iI b) :: .int (iI a) :: rest)) :=
  lv_idiv hexec hb hdg (iI_ne0 hb') (by rw [iI_div ha hb']; exact k)
theorem xi_icmp_lt (hexec : p.tables.exec = Jvm.exec) (hb : c.code = cc) {a b : Int} {off : Int} {tgt : Nat} (ha : inI a) (hb' : inI b) (hdg : decode cc pc = .ok (.if_icmp .lt off, 3)) (ht : (pc : Int) + off = (tgt : Int)) (kt : a < b → W p l e R s m args below meth c H locs cells slots Q (F0 m tgt ls (rest))) (kf : ¬ a < b → W p l e R s m args below meth c H locs cells slots Q (F0 m (pc + 3) ls (rest))) : W p l e R s m args below meth c H locs cells slots Q (F0 m pc ls (.int (iI b) :: .int (iI a) :: rest)) :=
  lv_icmp_lt hexec hb hdg ht (fun h => kt ((iI_lt ha hb').mp h)) (fun h => kf (fun z => h ((iI_lt ha hb').mpr z)))
theorem xi_if_lt (hexec : p.tables.exec = Jvm.exec) (hb : c.code = cc) {a : Int} {off : Int} {tgt : Nat} (ha : inI a) (hdg : decode cc pc = .ok (.ifCond .lt off, 3)) (ht : (pc : Int) + off = (tgt : Int)) (kt : a < 0 → W p l e R s m args below meth c H locs cells slots Q (F0 m tgt ls (rest))) (kf : ¬ a < 0 → W p l e R s m args below meth c H locs cells slots Q (F0 m (pc + 3) ls (rest))) : W p l e R s m args below meth c H locs cells slots Q (F0 m pc ls (.int (iI a) :: rest)) :=
  lv_if_lt hexec hb hdg ht (fun h => kt ((iI_lt ha inI_0).mp (by rw [iI_0]; exact h))) (fun h => kf (fun z => h (by have := (iI_lt ha inI_0).mpr z; rw [iI_0] at this; exact this)))
theorem xi_icmp_ge (hexec : p.tables.exec = Jvm.exec) (hb : c.code = cc) {a b : Int} {off : Int} {tgt : Nat} (ha : inI a) (hb' : inI b) (hdg : decode cc pc = .ok (.if_icmp .ge off, 3)) (ht : (pc : Int) + off = (tgt : Int)) (kt : b ≤ a → W p l e R s m args below meth c H locs cells slots Q (F0 m tgt ls (rest))) (kf : ¬ b ≤ a → W p l e R s m args below meth c H locs cells slots Q (F0 m (pc + 3) ls (rest))) : W p l e R s m args below meth c H locs cells slots Q (F0 m pc ls (.int (iI b) :: .int (iI a) :: rest)) :=
  lv_icmp_ge hexec hb hdg ht (fun h => kt ((iI_le hb' ha).mp h)) (fun h => kf (fun z => h ((iI_le hb' ha).mpr z)))
theorem xi_if_ge (hexec : p.tables.exec = Jvm.exec) (hb : c.code = cc) {a : Int} {off : Int} {tgt : Nat} (ha : inI a) (hdg : decode cc pc = .ok (.ifCond .ge off, 3)) (ht : (pc : Int) + off = (tgt : Int)) (kt : 0 ≤ a → W p l e R s m args below meth c H locs cells slots Q (F0 m tgt ls (rest))) (kf : ¬ 0 ≤ a → W p l e R s m args below meth c H locs cells slots Q (F0 m (pc + 3) ls (rest))) : W p l e R s m args below meth c H locs cells slots Q (F0 m pc ls (.int (iI a) :: rest)) :=
  lv_if_ge hexec hb hdg ht (fun h => kt ((iI_le inI_0 ha).mp (by rw [iI_0]; exact h))) (fun h => kf (fun z => h (by have := (iI_le inI_0 ha).mpr z; rw [iI_0] at this; exact this)))
theorem xi_icmp_gt (hexec : p.tables.exec = Jvm.exec) (hb : c.code = cc) {a b : Int} {off : Int} {tgt : Nat} (ha : inI a) (hb' : inI b) (hdg : decode cc pc = .ok (.if_icmp .gt off, 3)) (ht : (pc : Int) + off = (tgt : Int)) (kt : b < a → W p l e R s m args below meth c H locs cells slots Q (F0 m tgt ls (rest))) (kf : ¬ b < a → W p l e R s m args below meth c H locs cells slots Q (F0 m (pc + 3) ls (rest))) : W p l e R s m args below meth c H locs cells slots Q (F0 m pc ls (.int (iI b) :: .int (iI a) :: rest)) :=
  lv_icmp_gt hexec hb hdg ht (fun h => kt ((iI_lt hb' ha).mp h)) (fun h => kf (fun z => h ((iI_lt hb' ha).mpr z)))
theorem xi_if_gt (hexec : p.tables.exec = Jvm.exec) (hb : c.code = cc) {a : Int} {off : Int} {tgt : Nat} (ha : inI a) (hdg : decode cc pc = .ok (.ifCond .gt off, 3)) (ht : (pc : Int) + off = (tgt : Int)) (kt : 0 < a → W p l e R s m args below meth c H locs cells slots Q (F0 m tgt ls (rest))) (kf : ¬ 0 < a → W p l e R s m args below meth c H locs cells slots Q (F0 m (pc + 3) ls (rest))) : W p l e R s m args below meth c H locs cells slots Q (F0 m pc ls (.int (iI a) :: rest)) :=
  lv_if_gt hexec hb hdg ht (fun h => kt ((iI_lt inI_0 ha).mp (by rw [iI_0]; exact h))) (fun h => kf (fun z => h (by have := (iI_lt inI_0 ha).mpr z; rw [iI_0] at this; exact this)))
theorem xi_icmp_le (hexec : p.tables.exec = Jvm.exec) (hb : c.code = cc) {a b : Int} {off : Int} {tgt : Nat} (ha : inI a) (hb' : inI b) (hdg : decode cc pc = .ok (.if_icmp .le off, 3)) (ht : (pc : Int) + off = (tgt : Int)) (kt : a ≤ b → W p l e R s m args below meth c H locs cells slots Q (F0 m tgt ls (rest))) (kf : ¬ a ≤ b → W p l e R s m args below meth c H locs cells slots Q (F0 m (pc + 3) ls (rest))) : W p l e R s m args below meth c H locs cells slots Q (F0 m pc ls (.int (iI b) :: .int (iI a) :: rest)) :=
  lv_icmp_le hexec hb hdg ht (fun h => kt ((iI_le ha hb').mp h)) (fun h => kf (fun z => h ((iI_le ha hb').mpr z)))
theorem xi_if_le (hexec : p.tables.exec = Jvm.exec) (hb : c.code = cc) {a : Int} {off : Int} {tgt : Nat} (ha : inI a) (hdg : decode cc pc = .ok (.ifCond .le off, 3)) (ht : (pc : Int) + off = (tgt : Int)) (kt : a ≤ 0 → W p l e R s m args below meth c H locs cells slots Q (F0 m tgt ls (rest))) (kf : ¬ a ≤ 0 → W p l e R s m args below meth c H locs cells slots Q (F0 m (pc + 3) ls (rest))) : W p l e R s m args below meth c H locs cells slots Q (F0 m pc ls (.int (iI a) :: rest)) :=
  lv_if_le hexec hb hdg ht (fun h => kt ((iI_le ha inI_0).mp (by rw [iI_0]; exact h))) (fun h => kf (fun z => h (by have := (iI_le ha inI_0).mpr z; rw [iI_0] at this; exact this)))
theorem xi_icmp_eq (hexec : p.tables.exec = Jvm.exec) (hb : c.code = cc) {a b : Int} {off : Int} {tgt : Nat} (ha : inI a) (hb' : inI b) (hdg : decode cc pc = .ok (.if_icmp .eq off, 3)) (ht : (pc : Int) + off = (tgt : Int)) (kt : a = b → W p l e R s m args below meth c H locs cells slots Q (F0 m tgt ls (rest))) (kf : ¬ a = b → W p l e R s m args below meth c H locs cells slots Q (F0 m (pc + 3) ls (rest))) : W p l e R s m args below meth c H locs cells slots Q (F0 m pc ls (.int (iI b) :: .int (iI a) :: rest)) :=
  lv_icmp_eq hexec hb hdg ht (fun h => kt ((iI_eq ha hb').mp h)) (fun h => kf (fun z => h ((iI_eq ha hb').mpr z)))
theorem xi_if_eq (hexec : p.tables.exec = Jvm.exec) (hb : c.code = cc) {a : Int} {off : Int} {tgt : Nat} (ha : inI a) (hdg : decode cc pc = .ok (.ifCond .eq off, 3)) (ht : (pc : Int) + off = (tgt : Int)) (kt : a = 0 → W p l e R s m args below meth c H locs cells slots Q (F0 m tgt ls (rest))) (kf : ¬ a = 0 → W p l e R s m args below meth c H locs cells slots Q (F0 m (pc + 3) ls (rest))) : W p l e R s m args below meth c H locs cells slots Q (F0 m pc ls (.int (iI a) :: rest)) :=
  lv_if_eq hexec hb hdg ht (fun h => kt ((iI_eq ha inI_0).mp (by rw [iI_0]; exact h))) (fun h => kf (fun z => h (by have := (iI_eq ha inI_0).mpr z; rw [iI_0] at this; exact this)))
theorem xi_icmp_ne (hexec : p.tables.exec = Jvm.exec) (hb : c.code = cc) {a b : Int} {off : Int} {tgt : Nat} (ha : inI a) (hb' : inI b) (hdg : decode cc pc = .ok (.if_icmp .ne off, 3)) (ht : (pc : Int) + off = (tgt : Int)) (kt : ¬ a = b → W p l e R s m args below meth c H locs cells slots Q (F0 m tgt ls (rest))) (kf : a = b → W p l e R s m args below meth c H locs cells slots Q (F0 m (pc + 3) ls (rest))) : W p l e R s m args below meth c H locs cells slots Q (F0 m pc ls (.int (iI b) :: .int (iI a) :: rest)) :=
  lv_icmp_ne hexec hb hdg ht (fun h => kt (fun z => h ((iI_eq ha hb').mpr z))) (fun h => kf ((iI_eq ha hb').mp h))
theorem xi_if_ne (hexec : p.tables.exec = Jvm.exec) (hb : c.code = cc) {a : Int} {off : Int} {tgt : Nat} (ha : inI a) (hdg : decode cc pc = .ok (.ifCond .ne off, 3)) (ht : (pc : Int) + off = (tgt : Int)) (kt : ¬ a = 0 → W p l e R s m args below meth c H locs cells slots Q (F0 m tgt ls (rest))) (kf : a = 0 → W p l e R s m args below meth c H locs cells slots Q (F0 m (pc + 3) ls (rest))) : W p l e R s m args below meth c H locs cells slots Q (F0 m pc ls (.int (iI a) :: rest)) :=
  lv_if_ne hexec hb hdg ht (fun h => kt (fun z => h (by have := (iI_eq ha inI_0).mpr z; rw [iI_0] at this; exact this))) (fun h => kf ((iI_eq ha inI_0).mp (by rw [iI_0]; exact h)))
theorem xz_if_eq (hexec : p.tables.exec = Jvm.exec) (hb : c.code = cc) {x : Bool} {off : Int} {tgt : Nat} (hdg : decode cc pc = .ok (.ifCond .eq off, 3)) (ht : (pc : Int) + off = (tgt : Int)) (kt : x = false → W p l e R s m args below meth c H locs cells slots Q (F0 m tgt ls (rest))) (kf : x = true → W p l e R s m args below meth c H locs cells slots Q (F0 m (pc + 3) ls (rest))) : W p l e R s m args below meth c H locs cells slots Q (F0 m pc ls (.int (bI x) :: rest)) :=
  lv_if_eq hexec hb hdg ht (fun h => kt (bI_0.mp h)) (fun h => kf (by cases x with | true => rfl | false => exact absurd (bI_0.mpr rfl) h))
theorem xz_if_ne (hexec : p.tables.exec = Jvm.exec) (hb : c.code = cc) {x : Bool} {off : Int} {tgt : Nat} (hdg : decode cc pc = .ok (.ifCond .ne off, 3)) (ht : (pc : Int) + off = (tgt : Int)) (kt : x = true → W p l e R s m args below meth c H locs cells slots Q (F0 m tgt ls (rest))) (kf : x = false → W p l e R s m args below meth c H locs cells slots Q (F0 m (pc + 3) ls (rest))) : W p l e R s m args below meth c H locs cells slots Q (F0 m pc ls (.int (bI x) :: rest)) :=
  lv_if_ne hexec hb hdg ht (fun h => kt (by cases x with | true => rfl | false => exact absurd (bI_0.mpr rfl) h)) (fun h => kf (bI_0.mp h))
theorem xz_icmp_eq (hexec : p.tables.exec = Jvm.exec) (hb : c.code = cc) {x y : Bool} {off : Int} {tgt : Nat} (hdg : decode cc pc = .ok (.if_icmp .eq off, 3)) (ht : (pc : Int) + off = (tgt : Int)) (kt : x = y → W p l e R s m args below meth c H locs cells slots Q (F0 m tgt ls (rest))) (kf : ¬ x = y → W p l e R s m args below meth c H locs cells slots Q (F0 m (pc + 3) ls (rest))) : W p l e R s m args below meth c H locs cells slots Q (F0 m pc ls (.int (bI y) :: .int (bI x) :: rest)) :=
  lv_icmp_eq hexec hb hdg ht (fun h => kt (bI_inj.mp h)) (fun h => kf (fun z => h (bI_inj.mpr z)))
theorem xz_icmp_ne (hexec : p.tables.exec = Jvm.exec) (hb : c.code = cc) {x y : Bool} {off : Int} {tgt : Nat} (hdg : decode cc pc = .ok (.if_icmp .ne off, 3)) (ht : (pc : Int) + off = (tgt : Int)) (kt : ¬ x = y → W p l e R s m args below meth c H locs cells slots Q (F0 m tgt ls (rest))) (kf : x = y → W p l e R s m args below meth c H locs cells slots Q (F0 m (pc + 3) ls (rest))) : W p l e R s m args below meth c H locs cells slots Q (F0 m pc ls (.int (bI y) :: .int (bI x) :: rest)) :=
  lv_icmp_ne hexec hb hdg ht (fun h => kt (fun z => h (bI_inj.mpr z))) (fun h => kf (bI_inj.mp h))
theorem xb_and (hexec : p.tables.exec = Jvm.exec) (hb : c.code = cc) {f g : Nat → Bool} (hdg : decode cc pc = .ok (.land, 1)) (k : W p l e R s m args below meth c H locs cells slots Q (F0 m (pc + 1) ls (.long (bL (fun j => f j && g j)) :: rest))) : W p l e R s m args below meth c H locs cells slots Q (F0 m pc ls (.long (bL g) :: .long (bL f) :: rest)) :=
  lv_land hexec hb hdg (by rw [bL_and]; exact k)
theorem xb_or (hexec : p.tables.exec = Jvm.exec) (hb : c.code = cc) {f g : Nat → Bool} (hdg : decode cc pc = .ok (.lor, 1)) (k : W p l e R s m args below meth c H locs cells slots Q (F0 m (pc + 1) ls (.long (bL (fun j => f j || g j)) :: rest))) : W p l e R s m args below meth c H locs cells slots Q (F0 m pc ls (.long (bL g) :: .long (bL f) :: rest)) :=
  lv_lor hexec hb hdg (by rw [bL_or]; exact k)
theorem xb_xor (hexec : p.tables.exec = Jvm.exec) (hb : c.code = cc) {f g : Nat → Bool} (hdg : decode cc pc = .ok (.lxor, 1)) (k : W p l e R s m args below meth c H locs cells slots Q (F0 m (pc + 1) ls (.long (bL (fun j => f j ^^ g j)) :: rest))) : W p l e R s m args below meth c H locs cells slots Q (F0 m pc ls (.long (bL g) :: .long (bL f) :: rest)) :=
  lv_lxor hexec hb hdg (by rw [bL_xor]; exact k)
theorem xb_shl (hexec : p.tables.exec = Jvm.exec) (hb : c.code = cc) {f : Nat → Bool} {a : Int} (n : Nat) (ha : a = (n : Int)) (hn : n < 64) (hdg : decode cc pc = .ok (.lshl, 1)) (k : W p l e R s m args below meth c H locs cells slots Q (F0 m (pc + 1) ls (.long (bL (fun j => decide (n ≤ j) && f (j - n))) :: rest))) : W p l e R s m args below meth c H locs cells slots Q (F0 m pc ls (.int (iI a) :: .long (bL f) :: rest)) := by
  subst ha
  exact lv_lshl hexec hb hdg (bL_shl f hn) k
theorem xb_ushr (hexec : p.tables.exec = Jvm.exec) (hb : c.code = cc) {f : Nat → Bool} {a : Int} (n : Nat) (ha : a = (n : Int)) (hn : n < 64) (hdg : decode cc pc = .ok (.lushr, 1)) (k : W p l e R s m args below meth c H locs cells slots Q (F0 m (pc + 1) ls (.long (bL (fun j => decide (j + n < 64) && f (j + n))) :: rest))) : W p l e R s m args below meth c H locs cells slots Q (F0 m pc ls (.int (iI a) :: .long (bL f) :: rest)) := by
  subst ha
  exact lv_lushr hexec hb hdg (bL_shr f hn) k
theorem xb_cmp0_eq (hexec : p.tables.exec = Jvm.exec) (hb : c.code = cc) {f : Nat → Bool} {off : Int} {tgt : Nat} (hdg : decode cc pc = .ok (.lcmp, 1)) (hdg2 : decode cc (pc + 1) = .ok (.ifCond .eq off, 3)) (ht : ((pc + 1 : Nat) : Int) + off = (tgt : Int)) (kt : (∀ j, j < 64 → f j = false) → W p l e R s m args below meth c H locs cells slots Q (F0 m tgt ls (rest))) (kf : (¬ ∀ j, j < 64 → f j = false) → W p l e R s m args below meth c H locs cells slots Q (F0 m (pc + 1 + 3) ls (rest))) : W p l e R s m args below meth c H locs cells slots Q (F0 m pc ls (.long (bL (fun _ => false)) :: .long (bL f) :: rest)) :=
  W.lcmp hexec hb hdg (lv_if_eq hexec hb hdg2 ht (fun h => kt (bL_cmp0.mp h)) (fun h => kf (fun z => h (bL_cmp0.mpr z))))
theorem xb_cmp0_ne (hexec : p.tables.exec = Jvm.exec) (hb : c.code = cc) {f : Nat → Bool} {off : Int} {tgt : Nat} (hdg : decode cc pc = .ok (.lcmp, 1)) (hdg2 : decode cc (pc + 1) = .ok (.ifCond .ne off, 3)) (ht : ((pc + 1 : Nat) : Int) + off = (tgt : Int)) (kt : (¬ ∀ j, j < 64 → f j = false) → W p l e R s m args below meth c H locs cells slots Q (F0 m tgt ls (rest))) (kf : (∀ j, j < 64 → f j = false) → W p l e R s m args below meth c H locs cells slots Q (F0 m (pc + 1 + 3) ls (rest))) : W p l e R s m args below meth c H locs cells slots Q (F0 m pc ls (.long (bL (fun _ => false)) :: .long (bL f) :: rest)) :=
  W.lcmp hexec hb hdg (lv_if_ne hexec hb hdg2 ht (fun h => kt (fun z => h (bL_cmp0.mpr z))) (fun h => kf (bL_cmp0.mp h)))
end XI
def aI (f : Nat → Int) : Nat → Int32 := fun j => iI (f j)
def aZ (f : Nat → Bool) : Nat → Int32 := fun j => bI (f j)
def aB (f : Nat → Nat → Bool) : Nat → Int64 := fun j => bL (f j)
def aL (f : Nat → Int) : Nat → Int64 := fun j => lI (f j)
theorem aI_up (f : Nat → Int) (k : Nat) (v : Int) : upd (aI f) k (iI v) = aI (va_up f k v) := by
  funext j
  show (if j = k then iI v else iI (f j)) = iI (if j = k then v else f j)
  split <;> rfl
theorem aZ_up (f : Nat → Bool) (k : Nat) (v : Bool) : upd (aZ f) k (bI v) = aZ (va_up f k v) := by
  funext j
  show (if j = k then bI v else bI (f j)) = bI (if j = k then v else f j)
  split <;> rfl
theorem aB_up (f : Nat → Nat → Bool) (k : Nat) (v : Nat → Bool) : vp_updL (aB f) k (bL v) = aB (va_up f k v) := by
  funext j
  show (if j = k then bL v else bL (f j)) = bL ((if j = k then v else f j))
  split <;> rfl
theorem aL_up (f : Nat → Int) (k : Nat) (v : Int) : vp_updL (aL f) k (lI v) = aL (va_up f k v) := by
  funext j
  show (if j = k then lI v else lI (f j)) = lI (if j = k then v else f j)
  split <;> rfl
section XA
variable {p : Program} {l : Launch} {e : Env} {R : Room} {s : State} {m : MethodId} {args : Array Value} {below : List Frame} {meth : Method} {c : Code} {H : Heap} {locs : List Loc} {cells slots : Nat} {Q : State → Prop}
variable {cc : ByteArray} {pc : Nat} {ls : Array Slot} {rest : List Value}
variable {D : va_G} {cl : List vw_C} {A : Nat → Prop} {a : Nat} {tys : List (ClassId × FieldType)} {ws : va_W} {H0 : Heap}
theorem xa_iald (hexec : p.tables.exec = Jvm.exec) (hb : c.code = cc) (hK : va_K D cl tys s) (hP : va_P D cl ws H) (q0 t0 : Nat) {cA : ClassId} {n : Nat} {f : Nat → Int} (ha : ws[q0]? = some (a, .inl (cA, n, .inl (aI f)))) (ht : tys[t0]? = some (cA, .int)) {z : Int} (j : Nat) (hz : z = (j : Int)) (hj : j < n) (hn : n < 2 ^ 31) (hdg : decode cc pc = .ok (.iaload, 1)) (k : W p l e R s m args below meth c H locs cells slots Q (F0 m (pc + 1) ls (.int (iI (f j)) :: rest))) : W p l e R s m args below meth c H locs cells slots Q (F0 m pc ls (.int (iI z) :: .ref a :: rest)) := by
  subst hz
  rw [iI_n]
  refine va_iald hexec hb hK hP q0 t0 ha ht (vp_in_nI hj hn) hdg ?_
  rw [nI_clamp (Nat.lt_trans hj hn)]
  exact k
theorem xa_zald (hexec : p.tables.exec = Jvm.exec) (hb : c.code = cc) (hK : va_K D cl tys s) (hP : va_P D cl ws H) (q0 t0 : Nat) {cA : ClassId} {n : Nat} {f : Nat → Bool} (ha : ws[q0]? = some (a, .inl (cA, n, .inl (aZ f)))) (ht : tys[t0]? = some (cA, .boolean)) {z : Int} (j : Nat) (hz : z = (j : Int)) (hj : j < n) (hn : n < 2 ^ 31) (hdg : decode cc pc = .ok (.baload, 1)) (k : W p l e R s m args below meth c H locs cells slots Q (F0 m (pc + 1) ls (.int (bI (f j)) :: rest))) : W p l e R s m args below meth c H locs cells slots Q (F0 m pc ls (.int (iI z) :: .ref a :: rest)) := by
  subst hz
  rw [iI_n]
  refine va_zald hexec hb hK hP q0 t0 ha ht (vp_in_nI hj hn) hdg ?_
  rw [nI_clamp (Nat.lt_trans hj hn)]
  exact k
theorem xa_bald (hexec : p.tables.exec = Jvm.exec) (hb : c.code = cc) (hK : va_K D cl tys s) (hP : va_P D cl ws H) (q0 t0 : Nat) {cA : ClassId} {n : Nat} {f : Nat → Nat → Bool} (ha : ws[q0]? = some (a, .inl (cA, n, .inr (.inl (aB f))))) (ht : tys[t0]? = some (cA, .long)) {z : Int} (j : Nat) (hz : z = (j : Int)) (hj : j < n) (hn : n < 2 ^ 31) (hdg : decode cc pc = .ok (.laload, 1)) (k : W p l e R s m args below meth c H locs cells slots Q (F0 m (pc + 1) ls (.long (bL (f j)) :: rest))) : W p l e R s m args below meth c H locs cells slots Q (F0 m pc ls (.int (iI z) :: .ref a :: rest)) := by
  subst hz
  rw [iI_n]
  refine va_lald hexec hb hK hP q0 t0 ha ht (vp_in_nI hj hn) hdg ?_
  rw [nI_clamp (Nat.lt_trans hj hn)]
  exact k
theorem xa_lald (hexec : p.tables.exec = Jvm.exec) (hb : c.code = cc) (hK : va_K D cl tys s) (hP : va_P D cl ws H) (q0 t0 : Nat) {cA : ClassId} {n : Nat} {f : Nat → Int} (ha : ws[q0]? = some (a, .inl (cA, n, .inr (.inl (aL f))))) (ht : tys[t0]? = some (cA, .long)) {z : Int} (j : Nat) (hz : z = (j : Int)) (hj : j < n) (hn : n < 2 ^ 31) (hdg : decode cc pc = .ok (.laload, 1)) (k : W p l e R s m args below meth c H locs cells slots Q (F0 m (pc + 1) ls (.long (lI (f j)) :: rest))) : W p l e R s m args below meth c H locs cells slots Q (F0 m pc ls (.int (iI z) :: .ref a :: rest)) := by
  subst hz
  rw [iI_n]
  refine va_lald hexec hb hK hP q0 t0 ha ht (vp_in_nI hj hn) hdg ?_
  rw [nI_clamp (Nat.lt_trans hj hn)]
  exact k
theorem xa_iast (hexec : p.tables.exec = Jvm.exec) (hb : c.code = cc) (hK : va_K D cl tys s) (hP : va_P D cl ws H) (hD : va_D A ws) (hS : va_S A H0 H locs) (q0 t0 : Nat) {cA : ClassId} {n : Nat} {f : Nat → Int} (ha : ws[q0]? = some (a, .inl (cA, n, .inl (aI f)))) (ht : tys[t0]? = some (cA, .int)) {z : Int} {v : Int} (j : Nat) (hz : z = (j : Int)) (hj : j < n) (hn : n < 2 ^ 31) (hdg : decode cc pc = .ok (.iastore, 1))
    (kk : ∀ (H1 : Heap) (locs1 : List Loc), va_P D cl (ws.set q0 (a, .inl (cA, n, .inl (aI (va_up f j v))))) H1 → va_D A (ws.set q0 (a, .inl (cA, n, .inl (aI (va_up f j v))))) → va_S A H0 H1 locs1 → W p l e R s m args below meth c H1 locs1 cells slots Q (F0 m (pc + 1) ls (rest))) : W p l e R s m args below meth c H locs cells slots Q (F0 m pc ls (.int (iI v) :: .int (iI z) :: .ref a :: rest)) := by
  subst hz
  rw [iI_n]
  refine va_iast hexec hb hK hP hD hS q0 t0 ha ht (vp_in_nI hj hn) hdg ?_
  rw [nI_clamp (Nat.lt_trans hj hn), aI_up]
  exact kk
theorem xa_zast (hexec : p.tables.exec = Jvm.exec) (hb : c.code = cc) (hK : va_K D cl tys s) (hP : va_P D cl ws H) (hD : va_D A ws) (hS : va_S A H0 H locs) (q0 t0 : Nat) {cA : ClassId} {n : Nat} {f : Nat → Bool} (ha : ws[q0]? = some (a, .inl (cA, n, .inl (aZ f)))) (ht : tys[t0]? = some (cA, .boolean)) {z : Int} {v : Bool} (j : Nat) (hz : z = (j : Int)) (hj : j < n) (hn : n < 2 ^ 31) (hdg : decode cc pc = .ok (.bastore, 1))
    (kk : ∀ (H1 : Heap) (locs1 : List Loc), va_P D cl (ws.set q0 (a, .inl (cA, n, .inl (aZ (va_up f j v))))) H1 → va_D A (ws.set q0 (a, .inl (cA, n, .inl (aZ (va_up f j v))))) → va_S A H0 H1 locs1 → W p l e R s m args below meth c H1 locs1 cells slots Q (F0 m (pc + 1) ls (rest))) : W p l e R s m args below meth c H locs cells slots Q (F0 m pc ls (.int (bI v) :: .int (iI z) :: .ref a :: rest)) := by
  subst hz
  rw [iI_n]
  refine va_zast hexec hb hK hP hD hS q0 t0 ha ht (vp_in_nI hj hn) hdg ?_
  rw [nI_clamp (Nat.lt_trans hj hn), bI_nar, aZ_up]
  exact kk
theorem xa_bast (hexec : p.tables.exec = Jvm.exec) (hb : c.code = cc) (hK : va_K D cl tys s) (hP : va_P D cl ws H) (hD : va_D A ws) (hS : va_S A H0 H locs) (q0 t0 : Nat) {cA : ClassId} {n : Nat} {f : Nat → Nat → Bool} (ha : ws[q0]? = some (a, .inl (cA, n, .inr (.inl (aB f))))) (ht : tys[t0]? = some (cA, .long)) {z : Int} {v : Nat → Bool} (j : Nat) (hz : z = (j : Int)) (hj : j < n) (hn : n < 2 ^ 31) (hdg : decode cc pc = .ok (.lastore, 1))
    (kk : ∀ (H1 : Heap) (locs1 : List Loc), va_P D cl (ws.set q0 (a, .inl (cA, n, .inr (.inl (aB (va_up f j v)))))) H1 → va_D A (ws.set q0 (a, .inl (cA, n, .inr (.inl (aB (va_up f j v)))))) → va_S A H0 H1 locs1 → W p l e R s m args below meth c H1 locs1 cells slots Q (F0 m (pc + 1) ls (rest))) : W p l e R s m args below meth c H locs cells slots Q (F0 m pc ls (.long (bL v) :: .int (iI z) :: .ref a :: rest)) := by
  subst hz
  rw [iI_n]
  refine va_last hexec hb hK hP hD hS q0 t0 ha ht (vp_in_nI hj hn) hdg ?_
  rw [nI_clamp (Nat.lt_trans hj hn), aB_up]
  exact kk
theorem xa_last (hexec : p.tables.exec = Jvm.exec) (hb : c.code = cc) (hK : va_K D cl tys s) (hP : va_P D cl ws H) (hD : va_D A ws) (hS : va_S A H0 H locs) (q0 t0 : Nat) {cA : ClassId} {n : Nat} {f : Nat → Int} (ha : ws[q0]? = some (a, .inl (cA, n, .inr (.inl (aL f))))) (ht : tys[t0]? = some (cA, .long)) {z : Int} {v : Int} (j : Nat) (hz : z = (j : Int)) (hj : j < n) (hn : n < 2 ^ 31) (hdg : decode cc pc = .ok (.lastore, 1))
    (kk : ∀ (H1 : Heap) (locs1 : List Loc), va_P D cl (ws.set q0 (a, .inl (cA, n, .inr (.inl (aL (va_up f j v)))))) H1 → va_D A (ws.set q0 (a, .inl (cA, n, .inr (.inl (aL (va_up f j v)))))) → va_S A H0 H1 locs1 → W p l e R s m args below meth c H1 locs1 cells slots Q (F0 m (pc + 1) ls (rest))) : W p l e R s m args below meth c H locs cells slots Q (F0 m pc ls (.long (lI v) :: .int (iI z) :: .ref a :: rest)) := by
  subst hz
  rw [iI_n]
  refine va_last hexec hb hK hP hD hS q0 t0 ha ht (vp_in_nI hj hn) hdg ?_
  rw [nI_clamp (Nat.lt_trans hj hn), aL_up]
  exact kk
end XA
