/-! small rows -/
theorem bI_narrow (x : Bool) : narrow .boolean (.int (bI x)) = .int (bI x) := by cases x <;> decide +kernel
theorem bI_fits (x : Bool) : fits .boolean (.int (bI x)) = true := by cases x <;> decide +kernel
theorem has_t {f : Nat → Bool} {k : Nat} (hk : k < 64) (h : ¬ ∀ j, j < 64 → (fun j => (fun j => decide (j + k < 64) && f (j + k)) j && (fun j => decide (j = 0)) j) j = false) : iI 1 = bI (f k) := by
  cases hf : f k with
  | true => exact bI_t
  | false =>
    refine absurd (fun j hj => ?_) h
    by_cases h0 : j = 0
    · subst h0
      simp [hf]
    · simp [h0]
theorem has_f {f : Nat → Bool} {k : Nat} (hk : k < 64) (h : ∀ j, j < 64 → (fun j => (fun j => decide (j + k < 64) && f (j + k)) j && (fun j => decide (j = 0)) j) j = false) : iI 0 = bI (f k) := by
  have := h 0 (by decide)
  simp [hk] at this
  rw [this]
  exact bI_f
/-- the links across the nest -/
def isNest : Cond → Bool
  | .methodLinkNest .. => true
  | _ => false
def NB (U : State) : Prop := ∀ w ∈ lw_tbl.filter isNest, va_Nw w U
theorem NB.warm {s U : State} (hW : s.WarmedH U.vm) (h : NB s) : NB U := fun w hw => by
  have h1 := h w hw
  have h2 := (List.mem_filter.mp hw).2
  cases w <;> first | exact va_Nw.warmM hW h1 | exact Bool.noConfusion (show false = true from h2)
theorem NB.of {args : Array Value} {s : State} (h : ∀ w ∈ lw_tbl, w.before args s = true) : NB s := fun w hw => by
  have h1 := h w (List.mem_filter.mp hw).1
  have h2 := (List.mem_filter.mp hw).2
  cases w <;> first | exact va_Nw.of rfl h1 | exact Bool.noConfusion (show false = true from h2)
theorem NB.blind {s : State} {g : JFrame} {mk : MethodId} {a : Array Value} (h : NB s) : NB (s.calling g mk a) := fun w hw => by
  have h1 := h w hw
  have h2 := (List.mem_filter.mp hw).2
  cases w <;> first | exact va_Nw.same rfl rfl h1 | exact Bool.noConfusion (show false = true from h2)
set_option maxRecDepth 100000 in
theorem nb_403 {U : State} (h : NB U) : va_Nw (.methodLinkNest "OrganConsole$Stops" 42 ⟨"OrganConsole", "with", "(JIZ)J"⟩ "OrganConsole") U := h _ (List.mem_filter.mpr ⟨List.mem_of_getElem? (i := 403) (by rfl), rfl⟩)
set_option maxRecDepth 100000 in
theorem nb_504 {U : State} (h : NB U) : va_Nw (.methodLinkNest "OrganConsole$Stops" 50 ⟨"OrganConsole", "has", "(JI)Z"⟩ "OrganConsole") U := h _ (List.mem_filter.mpr ⟨List.mem_of_getElem? (i := 504) (by rfl), rfl⟩)
set_option maxRecDepth 100000 in
theorem nb_631 {U : State} (h : NB U) : va_Nw (.methodLinkNest "OrganConsole$Keywork" 55 ⟨"OrganConsole", "has", "(JI)Z"⟩ "OrganConsole") U := h _ (List.mem_filter.mpr ⟨List.mem_of_getElem? (i := 631) (by rfl), rfl⟩)
