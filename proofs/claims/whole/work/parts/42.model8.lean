/-! the reference: tick -/
def tku (t k j : Nat) : Int := if j < k then (t : Int) + 1 else (t : Int)
def tkp (ft : Nat → Int) (n t k : Nat) : Nat → Int := fun j => if j < n then (if ft j ≤ tku t k j then 0 else ft j - tku t k j) else ft j
def tkk (kn tg : Nat → Bool) (ft fc : Nat → Int) (n t k : Nat) : Nat → Bool := fun j => if j < n ∧ 0 < ft j ∧ ft j ≤ tku t k j ∧ fc j = 0 then tg j else kn j
def tkc (ft fc : Nat → Int) (t s : Nat) : Bool := decide (ft s = (t : Int) + 1) && decide (fc s = 0)
section TK
variable {kn tg : Nat → Bool} {ft fc : Nat → Int} {n t k : Nat}
theorem tku_at : tku t k k = (t : Int) := by unfold tku; rw [if_neg (by omega)]
theorem tku_s1 : tku t (k + 1) k = (t : Int) + 1 := by unfold tku; rw [if_pos (by omega)]
theorem tku_ne {j : Nat} (h : ¬ j = k) : tku t (k + 1) j = tku t k j := by
  unfold tku
  by_cases e : j < k
  · rw [if_pos e, if_pos (by omega)]
  · rw [if_neg e, if_neg (by omega)]
theorem tkp_at (hk : k < n) : tkp ft n t k k = (if ft k ≤ (t : Int) then 0 else ft k - (t : Int)) := by unfold tkp; rw [if_pos hk, tku_at]
theorem tkp_up {v : Int} (hk : k < n) (hv : v = (if ft k ≤ (t : Int) + 1 then 0 else ft k - ((t : Int) + 1))) : va_up (tkp ft n t k) k v = tkp ft n t (k + 1) := by
  funext j
  by_cases e : j = k
  · subst e
    rw [up_at, hv]
    unfold tkp
    rw [if_pos hk, tku_s1]
  · unfold va_up
    rw [if_neg e]
    unfold tkp
    rw [tku_ne e]
theorem tkp_a (hk : k < n) (h : 0 < tkp ft n t k k) : va_up (tkp ft n t k) k (tkp ft n t k k - 1) = tkp ft n t (k + 1) := by
  refine tkp_up hk ?_
  rw [tkp_at hk] at h ⊢
  split at h
  · omega
  · rw [if_neg (by assumption)]; split <;> omega
theorem tkp_b (hk : k < n) (h : ¬ 0 < tkp ft n t k k) : va_up (tkp ft n t k) k 0 = tkp ft n t (k + 1) := by
  refine tkp_up hk ?_
  rw [tkp_at hk] at h
  split at h
  · rw [if_pos (by omega)]
  · omega
theorem tk_1 (hk : k < n) (h : tkp ft n t k k = 1) : ft k = (t : Int) + 1 := by
  rw [tkp_at hk] at h
  split at h <;> omega
theorem tk_2 (hk : k < n) (h : ¬ tkp ft n t k k = 1) : ¬ ft k = (t : Int) + 1 := by
  intro e
  apply h
  rw [tkp_at hk, if_neg (by omega)]
  omega
theorem tkk_up {v : Bool} (hv : v = (if k < n ∧ 0 < ft k ∧ ft k ≤ (t : Int) + 1 ∧ fc k = 0 then tg k else kn k)) : va_up (tkk kn tg ft fc n t k) k v = tkk kn tg ft fc n t (k + 1) := by
  funext j
  by_cases e : j = k
  · subst e
    rw [up_at, hv]
    unfold tkk
    rw [tku_s1]
  · unfold va_up
    rw [if_neg e]
    unfold tkk
    rw [tku_ne e]
theorem tkk_y (hk : k < n) (h : tkp ft n t k k = 1) (hc : fc k = 0) : va_up (tkk kn tg ft fc n t k) k (tg k) = tkk kn tg ft fc n t (k + 1) := by
  have := tk_1 hk h
  exact tkk_up (by rw [if_pos (by omega)])
theorem tkk_n (hk : k < n) (h : ¬ tkp ft n t k k = 1 ∨ ¬ fc k = 0) : va_up (tkk kn tg ft fc n t k) k (tkk kn tg ft fc n t k k) = tkk kn tg ft fc n t (k + 1) := by
  refine tkk_up ?_
  show (if k < n ∧ 0 < ft k ∧ ft k ≤ tku t k k ∧ fc k = 0 then tg k else kn k) = _
  rw [tku_at]
  have h2 : ¬ ft k = (t : Int) + 1 ∨ ¬ fc k = 0 := h.imp (tk_2 hk) id
  by_cases e : k < n ∧ 0 < ft k ∧ ft k ≤ (t : Int) ∧ fc k = 0
  · rw [if_pos e, if_pos (by omega)]
  · rw [if_neg e, if_neg (by omega)]
theorem tkc_y (hk : k < n) (h : tkp ft n t k k = 1) (hc : fc k = 0) : tkc ft fc t k = true := and_t (decide_eq_true (tk_1 hk h)) (decide_eq_true hc)
theorem tkc_n1 (hk : k < n) (h : ¬ tkp ft n t k k = 1) : tkc ft fc t k = false := and_f1 (decide_eq_false (tk_2 hk h))
theorem tkc_n2 (hc : ¬ fc k = 0) : tkc ft fc t k = false := and_f2 (decide_eq_false hc)
theorem tk_sum : ∀ n : Nat, cnt (pfm ft fc (t : Int)) n + cnt (tkc ft fc t) n = cnt (pfm ft fc ((t : Int) + 1)) n
  | 0 => by rw [cnt_z, cnt_z, cnt_z]
  | n + 1 => by
    have ih := tk_sum n
    rw [cnt_s, cnt_s, cnt_s]
    have e : (if pfm ft fc ((t : Int) + 1) n = true then 1 else 0) = (if pfm ft fc (t : Int) n = true then 1 else 0) + (if tkc ft fc t n = true then 1 else 0) := by
      unfold pfm tkc
      simp only [Bool.and_eq_true, decide_eq_true_eq]
      repeat' split
      all_goals omega
    omega
end TK
