/-! what the statement gives of the start -/
theorem ex_str {own cls : String} {k : Nat} {A : Array Value} {s : State} (h : (Cond.exactly (.string own k) cls).before A s = true) : ∃ a, (Term.string own k).eval A s none [] s = some (.ref a) := by
  obtain ⟨a, c, cell, k9, h1, -⟩ := Cond.exactly_spec h
  exact ⟨a, h1⟩
theorem vk_of {k : Nat} {tx : String} {A : Array Value} {s : State} (h1 : (Cond.stringRef "OrganConsole" k tx).before A s = true) (h2 : (Cond.exactly (.string "OrganConsole" k) "java/lang/String").before A s = true) : ∃ (t : String) (a : Nat), vk_R "OrganConsole" k t a s := by
  obtain ⟨a, ha⟩ := ex_str h2
  exact ⟨tx, a, vk_R.of h1 ha⟩
section XBO
variable {A : Array Value} {s : State}
set_option maxRecDepth 100000 in
theorem vo_67 (hts : ∀ w ∈ lw_tbl, w.before A s = true) (hs : ∀ w ∈ flatC (Jvm.Cond.and given_1 narrow_1), w.before A s = true) : ∃ (t : String) (a : Nat), vk_R "OrganConsole" 67 t a s := vk_of (tx := "a compass is 0 <= low <= high <= 96") (hts _ (List.mem_of_getElem? (i := 382) (by rfl))) (hs _ (by decide +kernel))
set_option maxRecDepth 100000 in
theorem vo_77 (hts : ∀ w ∈ lw_tbl, w.before A s = true) (hs : ∀ w ∈ flatC (Jvm.Cond.and given_1 narrow_1), w.before A s = true) : ∃ (t : String) (a : Nat), vk_R "OrganConsole" 77 t a s := vk_of (tx := "there are 48 stops") (hts _ (List.mem_of_getElem? (i := 392) (by rfl))) (hs _ (by decide +kernel))
set_option maxRecDepth 100000 in
theorem vo_87 (hts : ∀ w ∈ lw_tbl, w.before A s = true) (hs : ∀ w ∈ flatC (Jvm.Cond.and given_1 narrow_1), w.before A s = true) : ∃ (t : String) (a : Nat), vk_R "OrganConsole" 87 t a s := vk_of (tx := "there are 16 couplers") (hts _ (List.mem_of_getElem? (i := 414) (by rfl))) (hs _ (by decide +kernel))
set_option maxRecDepth 100000 in
theorem vo_95 (hts : ∀ w ∈ lw_tbl, w.before A s = true) (hs : ∀ w ∈ flatC (Jvm.Cond.and given_1 narrow_1), w.before A s = true) : ∃ (t : String) (a : Nat), vk_R "OrganConsole" 95 t a s := vk_of (tx := "no such key") (hts _ (List.mem_of_getElem? (i := 426) (by rfl))) (hs _ (by decide +kernel))
set_option maxRecDepth 100000 in
theorem vo_121 (hts : ∀ w ∈ lw_tbl, w.before A s = true) (hs : ∀ w ∈ flatC (Jvm.Cond.and given_1 narrow_1), w.before A s = true) : ∃ (t : String) (a : Nat), vk_R "OrganConsole" 121 t a s := vk_of (tx := "no such coupler") (hts _ (List.mem_of_getElem? (i := 454) (by rfl))) (hs _ (by decide +kernel))
set_option maxRecDepth 100000 in
theorem vo_153 (hts : ∀ w ∈ lw_tbl, w.before A s = true) (hs : ∀ w ∈ flatC (Jvm.Cond.and given_1 narrow_1), w.before A s = true) : ∃ (t : String) (a : Nat), vk_R "OrganConsole" 153 t a s := vk_of (tx := "a level is 0 .. 7") (hts _ (List.mem_of_getElem? (i := 531) (by rfl))) (hs _ (by decide +kernel))
set_option maxRecDepth 100000 in
theorem vo_158 (hts : ∀ w ∈ lw_tbl, w.before A s = true) (hs : ∀ w ∈ flatC (Jvm.Cond.and given_1 narrow_1), w.before A s = true) : ∃ (t : String) (a : Nat), vk_R "OrganConsole" 158 t a s := vk_of (tx := "no frame is there") (hts _ (List.mem_of_getElem? (i := 539) (by rfl))) (hs _ (by decide +kernel))
set_option maxRecDepth 100000 in
theorem vo_160 (hts : ∀ w ∈ lw_tbl, w.before A s = true) (hs : ∀ w ∈ flatC (Jvm.Cond.and given_1 narrow_1), w.before A s = true) : ∃ (t : String) (a : Nat), vk_R "OrganConsole" 160 t a s := vk_of (tx := "there are 100 frames") (hts _ (List.mem_of_getElem? (i := 547) (by rfl))) (hs _ (by decide +kernel))
set_option maxRecDepth 100000 in
theorem vo_166 (hts : ∀ w ∈ lw_tbl, w.before A s = true) (hs : ∀ w ∈ flatC (Jvm.Cond.and given_1 narrow_1), w.before A s = true) : ∃ (t : String) (a : Nat), vk_R "OrganConsole" 166 t a s := vk_of (tx := "the cursor is ahead of all frames") (hts _ (List.mem_of_getElem? (i := 560) (by rfl))) (hs _ (by decide +kernel))
set_option maxRecDepth 100000 in
theorem vo_171 (hts : ∀ w ∈ lw_tbl, w.before A s = true) (hs : ∀ w ∈ flatC (Jvm.Cond.and given_1 narrow_1), w.before A s = true) : ∃ (t : String) (a : Nat), vk_R "OrganConsole" 171 t a s := vk_of (tx := "the pedal goes from 0 to 15") (hts _ (List.mem_of_getElem? (i := 572) (by rfl))) (hs _ (by decide +kernel))
set_option maxRecDepth 100000 in
theorem vo_173 (hts : ∀ w ∈ lw_tbl, w.before A s = true) (hs : ∀ w ∈ flatC (Jvm.Cond.and given_1 narrow_1), w.before A s = true) : ∃ (t : String) (a : Nat), vk_R "OrganConsole" 173 t a s := vk_of (tx := "a step is 1 .. 15") (hts _ (List.mem_of_getElem? (i := 580) (by rfl))) (hs _ (by decide +kernel))
set_option maxRecDepth 100000 in
theorem vo_179 (hts : ∀ w ∈ lw_tbl, w.before A s = true) (hs : ∀ w ∈ flatC (Jvm.Cond.and given_1 narrow_1), w.before A s = true) : ∃ (t : String) (a : Nat), vk_R "OrganConsole" 179 t a s := vk_of (tx := "ticks are 0 .. 100") (hts _ (List.mem_of_getElem? (i := 591) (by rfl))) (hs _ (by decide +kernel))
set_option maxRecDepth 100000 in
theorem vo_194 (hts : ∀ w ∈ lw_tbl, w.before A s = true) (hs : ∀ w ∈ flatC (Jvm.Cond.and given_1 narrow_1), w.before A s = true) : ∃ (t : String) (a : Nat), vk_R "OrganConsole" 194 t a s := vk_of (tx := "of a stop 0 .. 3 can be asked") (hts _ (List.mem_of_getElem? (i := 643) (by rfl))) (hs _ (by decide +kernel))
set_option maxRecDepth 100000 in
theorem vo_215 (hts : ∀ w ∈ lw_tbl, w.before A s = true) (hs : ∀ w ∈ flatC (Jvm.Cond.and given_1 narrow_1), w.before A s = true) : ∃ (t : String) (a : Nat), vk_R "OrganConsole" 215 t a s := vk_of (tx := "the writes are 0 .. 9") (hts _ (List.mem_of_getElem? (i := 666) (by rfl))) (hs _ (by decide +kernel))
set_option maxRecDepth 100000 in
theorem vo_228 (hts : ∀ w ∈ lw_tbl, w.before A s = true) (hs : ∀ w ∈ flatC (Jvm.Cond.and given_1 narrow_1), w.before A s = true) : ∃ (t : String) (a : Nat), vk_R "OrganConsole" 228 t a s := vk_of (tx := "no such page") (hts _ (List.mem_of_getElem? (i := 689) (by rfl))) (hs _ (by decide +kernel))
set_option maxRecDepth 100000 in
theorem vo_239 (hts : ∀ w ∈ lw_tbl, w.before A s = true) (hs : ∀ w ∈ flatC (Jvm.Cond.and given_1 narrow_1), w.before A s = true) : ∃ (t : String) (a : Nat), vk_R "OrganConsole" 239 t a s := vk_of (tx := "the page was never written") (hts _ (List.mem_of_getElem? (i := 691) (by rfl))) (hs _ (by decide +kernel))
set_option maxRecDepth 100000 in
theorem vo_248 (hts : ∀ w ∈ lw_tbl, w.before A s = true) (hs : ∀ w ∈ flatC (Jvm.Cond.and given_1 narrow_1), w.before A s = true) : ∃ (t : String) (a : Nat), vk_R "OrganConsole" 248 t a s := vk_of (tx := "a state is 0 .. 2") (hts _ (List.mem_of_getElem? (i := 708) (by rfl))) (hs _ (by decide +kernel))
set_option maxRecDepth 100000 in
theorem vo_272 (hts : ∀ w ∈ lw_tbl, w.before A s = true) (hs : ∀ w ∈ flatC (Jvm.Cond.and given_1 narrow_1), w.before A s = true) : ∃ (t : String) (a : Nat), vk_R "OrganConsole" 272 t a s := vk_of (tx := "0 .. 10 can be counted") (hts _ (List.mem_of_getElem? (i := 733) (by rfl))) (hs _ (by decide +kernel))
set_option maxRecDepth 100000 in
theorem vo_274 (hts : ∀ w ∈ lw_tbl, w.before A s = true) (hs : ∀ w ∈ flatC (Jvm.Cond.and given_1 narrow_1), w.before A s = true) : ∃ (t : String) (a : Nat), vk_R "OrganConsole" 274 t a s := vk_of (tx := "no such keyboard or division") (hts _ (List.mem_of_getElem? (i := 336) (by rfl))) (hs _ (by decide +kernel))
set_option maxRecDepth 100000 in
theorem vo_276 (hts : ∀ w ∈ lw_tbl, w.before A s = true) (hs : ∀ w ∈ flatC (Jvm.Cond.and given_1 narrow_1), w.before A s = true) : ∃ (t : String) (a : Nat), vk_R "OrganConsole" 276 t a s := vk_of (tx := "a shift is -24 .. 24") (hts _ (List.mem_of_getElem? (i := 375) (by rfl))) (hs _ (by decide +kernel))
set_option maxRecDepth 100000 in
theorem vo_278 (hts : ∀ w ∈ lw_tbl, w.before A s = true) (hs : ∀ w ∈ flatC (Jvm.Cond.and given_1 narrow_1), w.before A s = true) : ∃ (t : String) (a : Nat), vk_R "OrganConsole" 278 t a s := vk_of (tx := "no such stop") (hts _ (List.mem_of_getElem? (i := 442) (by rfl))) (hs _ (by decide +kernel))
set_option maxRecDepth 100000 in
theorem vo_283 (hts : ∀ w ∈ lw_tbl, w.before A s = true) (hs : ∀ w ∈ flatC (Jvm.Cond.and given_1 narrow_1), w.before A s = true) : ∃ (t : String) (a : Nat), vk_R "OrganConsole" 283 t a s := vk_of (tx := "no such piston or frame") (hts _ (List.mem_of_getElem? (i := 470) (by rfl))) (hs _ (by decide +kernel))
set_option maxRecDepth 100000 in
theorem vo_288 (hts : ∀ w ∈ lw_tbl, w.before A s = true) (hs : ∀ w ∈ flatC (Jvm.Cond.and given_1 narrow_1), w.before A s = true) : ∃ (t : String) (a : Nat), vk_R "OrganConsole" 288 t a s := vk_of (tx := "no such line or coil") (hts _ (List.mem_of_getElem? (i := 707) (by rfl))) (hs _ (by decide +kernel))
set_option maxRecDepth 100000 in
theorem vo_290 (hts : ∀ w ∈ lw_tbl, w.before A s = true) (hs : ∀ w ∈ flatC (Jvm.Cond.and given_1 narrow_1), w.before A s = true) : ∃ (t : String) (a : Nat), vk_R "OrganConsole" 290 t a s := vk_of (tx := "the lock is on") (hts _ (List.mem_of_getElem? (i := 522) (by rfl))) (hs _ (by decide +kernel))
set_option maxRecDepth 100000 in
theorem xb_of (hts : ∀ w ∈ lw_tbl, w.before A s = true) (hs : ∀ w ∈ flatC (Jvm.Cond.and given_1 narrow_1), w.before A s = true) : XB s :=
  ⟨sx.of (hts _ (List.mem_of_getElem? (i := 322) (by rfl))) (hs _ (by decide +kernel)), sx.of (hts _ (List.mem_of_getElem? (i := 324) (by rfl))) (hs _ (by decide +kernel)), hts _ (List.mem_of_getElem? (i := 299) (by rfl)), hts _ (List.mem_of_getElem? (i := 301) (by rfl)), hts _ (List.mem_of_getElem? (i := 303) (by rfl)), (List.forall_mem_cons.mpr ⟨vo_67 hts hs, (List.forall_mem_cons.mpr ⟨vo_77 hts hs, (List.forall_mem_cons.mpr ⟨vo_87 hts hs, (List.forall_mem_cons.mpr ⟨vo_95 hts hs, (List.forall_mem_cons.mpr ⟨vo_121 hts hs, (List.forall_mem_cons.mpr ⟨vo_153 hts hs, (List.forall_mem_cons.mpr ⟨vo_158 hts hs, (List.forall_mem_cons.mpr ⟨vo_160 hts hs, (List.forall_mem_cons.mpr ⟨vo_166 hts hs, (List.forall_mem_cons.mpr ⟨vo_171 hts hs, (List.forall_mem_cons.mpr ⟨vo_173 hts hs, (List.forall_mem_cons.mpr ⟨vo_179 hts hs, (List.forall_mem_cons.mpr ⟨vo_194 hts hs, (List.forall_mem_cons.mpr ⟨vo_215 hts hs, (List.forall_mem_cons.mpr ⟨vo_228 hts hs, (List.forall_mem_cons.mpr ⟨vo_239 hts hs, (List.forall_mem_cons.mpr ⟨vo_248 hts hs, (List.forall_mem_cons.mpr ⟨vo_272 hts hs, (List.forall_mem_cons.mpr ⟨vo_274 hts hs, (List.forall_mem_cons.mpr ⟨vo_276 hts hs, (List.forall_mem_cons.mpr ⟨vo_278 hts hs, (List.forall_mem_cons.mpr ⟨vo_283 hts hs, (List.forall_mem_cons.mpr ⟨vo_288 hts hs, (List.forall_mem_cons.mpr ⟨vo_290 hts hs, (fun _ h => absurd h List.not_mem_nil)⟩)⟩)⟩)⟩)⟩)⟩)⟩)⟩)⟩)⟩)⟩)⟩)⟩)⟩)⟩)⟩)⟩)⟩)⟩)⟩)⟩)⟩)⟩)⟩)⟩
theorem nx_of (hs : ∀ w ∈ flatC (Jvm.Cond.and given_1 narrow_1), w.before A s = true) : NX s := ⟨va_Nc.of (hs _ (by decide +kernel)), va_Nc.of (hs _ (by decide +kernel)), va_Nc.of (hs _ (by decide +kernel))⟩
theorem ak_of {ty : FieldType} (hp : ∀ C, ty ≠ .object C) (h : (Cond.arrayClass ty).before A s = true) : ∃ cA : ClassId, ArrOfT s cA ty ∧ va_RA s cA ty := by
  obtain ⟨cA, kA, comp, h1, h2, h3⟩ := Cond.arrayClass_spec h
  refine ⟨cA, fun n z => ⟨fun k h => (by cases h), kA, h2, comp, h3⟩, ?_⟩
  cases ty <;> first | exact h1 | exact absurd rfl (hp _)
end XBO
theorem vwK {A : Array Value} {s : State} (htb : ∀ w ∈ TB, w.before A s = true) : ∃ (dC : Nat → ClassId) (dI : Nat → Nat → Nat) (cI cL cZ : ClassId), va_K (dC, dI) vwCl [(cI, .int), (cL, .long), (cZ, .boolean)] s := by
  obtain ⟨c0, i0, k0⟩ := u_known (N := 3) htb in_cp (htb _ tw_154)
  obtain ⟨c1, i1, k1⟩ := u_known (N := 6) htb in_ke (htb _ tw_60)
  obtain ⟨c2, i2, k2⟩ := u_known (N := 2) htb in_me (htb _ tw_133)
  obtain ⟨c3, i3, k3⟩ := u_known (N := 9) htb in_st (htb _ tw_90)
  obtain ⟨c4, i4, k4⟩ := u_known (N := 3) htb in_sr (htb _ tw_148)
  obtain ⟨c5, i5, k5⟩ := u_known (N := 10) htb in_oc (htb _ tw_52)
  obtain ⟨c6, i6, k6⟩ := u_known (N := 29) htb in_mo (htb _ tw_735)
  obtain ⟨cI, hcI⟩ := ak_of (ty := .int) (fun C h => by cases h) (htb _ tw_88)
  obtain ⟨cL, hcL⟩ := ak_of (ty := .long) (fun C h => by cases h) (htb _ tw_87)
  obtain ⟨cZ, hcZ⟩ := ak_of (ty := .boolean) (fun C h => by cases h) (htb _ tw_175)
  refine ⟨fun j => ([c0, c1, c2, c3, c4, c5, c6] : List ClassId).getD j 0, fun j => ([i0, i1, i2, i3, i4, i5, i6] : List (Nat → Nat)).getD j (fun _ => 0), cI, cL, cZ, ?_, ?_⟩
  · intro c q hq
    have hc : c < 7 := (List.getElem?_eq_some_iff.mp hq).1
    rcases (show c = 0 ∨ c = 1 ∨ c = 2 ∨ c = 3 ∨ c = 4 ∨ c = 5 ∨ c = 6 by omega) with rfl | rfl | rfl | rfl | rfl | rfl | rfl
    · cases hq; exact k0
    · cases hq; exact k1
    · cases hq; exact k2
    · cases hq; exact k3
    · cases hq; exact k4
    · cases hq; exact k5
    · cases hq; exact k6
  · intro k q hq
    have hc : k < 3 := (List.getElem?_eq_some_iff.mp hq).1
    rcases (show k = 0 ∨ k = 1 ∨ k = 2 by omega) with rfl | rfl | rfl
    · cases hq; exact hcI
    · cases hq; exact hcL
    · cases hq; exact hcZ
