/-! pictures of Stops, Memory, Copy -/
section XD
variable {p : Program} {l : Launch} {e : Env} {R : Room} {s : State} {m : MethodId} {args : Array Value} {below : List Frame} {meth : Method} {c : Code} {H : Heap} {locs : List Loc} {cells slots : Nat} {Q : State → Prop}
variable {cc : ByteArray} {pc : Nat} {ls : Array Slot} {rest : List Value}
theorem bL_sh1 (n : Nat) : bL (fun j => decide (n ≤ j) && (fun j => decide (j = 0)) (j - n)) = bL (fun j => decide (j = n)) := bL_ext (fun j _ => by
  by_cases h : j = n
  · subst h
    simp
  · by_cases h2 : n ≤ j
    · simp [h, show ¬ j - n = 0 by omega]
    · simp [h, h2])
theorem xb_dec (hexec : p.tables.exec = Jvm.exec) (hb : c.code = cc) {n : Nat} (hn : n < 64) (hdg : decode cc pc = .ok (.lsub, 1)) (k : W p l e R s m args below meth c H locs cells slots Q (F0 m (pc + 1) ls (.long (bL (fun j => decide (j < n))) :: rest))) :
    W p l e R s m args below meth c H locs cells slots Q (F0 m pc ls (.long (bL (fun j => decide (j = 0))) :: .long (bL (fun j => decide (n ≤ j) && (fun j => decide (j = 0)) (j - n))) :: rest)) :=
  lv_lsub hexec hb hdg (by rw [bL_sh1, ← bL_1, bL_all hn]; exact k)
end XD
/-- the steps' sets up to the k-th, rows from 428 on -/
def su (row : Nat → Nat → Bool) : Nat → Nat → Bool
  | 0, _ => false
  | k + 1, j => su row k j || row (428 + k) j
def gv (f : Nat → Int) : Nat → Int
  | 0 => 0
  | k + 1 => max (gv f k) (f k)
theorem gv_in {f : Nat → Int} (h : ∀ p, 0 ≤ f p ∧ f p ≤ 100000) : ∀ k, 0 ≤ gv f k ∧ gv f k ≤ 100000
  | 0 => ⟨Int.le_refl 0, by show (0 : Int) ≤ 100000; decide⟩
  | k + 1 => by
    have a := gv_in h k
    have b := h k
    show 0 ≤ max (gv f k) (f k) ∧ max (gv f k) (f k) ≤ 100000
    omega
abbrev wh (fv : Nat → Int) (fz : Nat → Bool) : Prop := ∀ p, p < 9 → fz p = false ∧ fv p = fv 8
/-- the version of a whole copy, else 0 -/
def wv (fv : Nat → Int) (fz : Nat → Bool) : Int := if wh fv fz then fv 8 else 0
theorem wv_t {fv : Nat → Int} {fz : Nat → Bool} (h : wh fv fz) : wv fv fz = fv 8 := by unfold wv; rw [if_pos h]
theorem wv_f {fv : Nat → Int} {fz : Nat → Bool} (h : ¬ wh fv fz) : wv fv fz = 0 := by unfold wv; rw [if_neg h]
theorem wv_in {fv : Nat → Int} (hv : ∀ p, 0 ≤ fv p ∧ fv p ≤ 100000) (fz : Nat → Bool) : 0 ≤ wv fv fz ∧ wv fv fz ≤ 100000 := by
  by_cases h : wh fv fz
  · rw [wv_t h]; exact hv 8
  · rw [wv_f h]; omega
/-- the first of the places that doesn't hold 0, else -1 -/
def ff (f : Nat → Int) : Nat → Int
  | 0 => -1
  | n + 1 => if f 0 = 0 then (if ff (fun j => f (j + 1)) n = -1 then -1 else ff (fun j => f (j + 1)) n + 1) else 0
theorem lv_eq9 {ls : Array Slot} {n : Nat} {l l' : List (Nat × Value)} (h : lv_has ls n l) (e : l = l') : lv_has ls n l' := e ▸ h
theorem cnt_t {f : Nat → Bool} {k : Nat} (h : f k = true) : cnt f (k + 1) = cnt f k + 1 := by rw [cnt_s, if_pos h]
theorem cnt_f {f : Nat → Bool} {k : Nat} (h : f k = false) : cnt f (k + 1) = cnt f k := by rw [cnt_s, if_neg (by rw [h]; decide), Nat.add_zero]

/-- the stops in a scope whose knobs are not as a set has them -/
def un (kn f g : Nat → Bool) : Nat → Bool := fun j => (kn j ^^ f j) && g j

/-- which of two copies is in force after a start, by the versions of whole copies -/
def nw (a b : Int) : Int := if a = 0 ∧ b = 0 then -1 else if b ≤ a then 0 else 1
theorem nw_in (a b : Int) : nw a b = -1 ∨ nw a b = 0 ∨ nw a b = 1 := by
  unfold nw
  split
  · exact Or.inl rfl
  · split
    · exact Or.inr (Or.inl rfl)
    · exact Or.inr (Or.inr rfl)
