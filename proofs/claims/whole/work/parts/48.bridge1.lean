/-! the console's cells out of the reference's -/
def gof (dn : Nat → Bool) : Nat → Nat → Bool := fun d k => decide (k < 61) && dn (61 * d + k)
def gdo (n : Nat) (fd : Nat → Int) : Nat → Nat → Bool := fun d j => decide (j < n) && decide (fd j = (d : Int))
def rpl (r : Nat) : Nat := 48 * (if r < 428 then r else r + 1)
def rof (me : Nat → Bool) (o : Nat) : Nat → Nat → Bool := fun r j => decide (r < 443) && decide (j < 48) && me (o + rpl r + j)
def vof (ve : Nat → Int) (o : Nat) : Nat → Int := fun p => if p < 9 then ve (o + p) else 0
def zof (sp : Nat → Bool) (o : Nat) : Nat → Bool := fun p => decide (p < 9) && sp (o + p)
theorem rpl_a {r : Nat} (h : r < 428) : rpl r = 48 * r := by unfold rpl; rw [if_pos h]
theorem rpl_b {r : Nat} (h : ¬ r < 428) : rpl r = 48 * r + 48 := by unfold rpl; rw [if_neg h]; omega
theorem rpl_c (r : Nat) : r < 428 ∧ rpl r = 48 * r ∨ 428 ≤ r ∧ rpl r = 48 * r + 48 := by
  by_cases h : r < 428
  · exact Or.inl ⟨h, rpl_a h⟩
  · exact Or.inr ⟨by omega, rpl_b h⟩
theorem rof_y {me : Nat → Bool} {o r j : Nat} (h : r < 443) (h2 : j < 48) : rof me o r j = me (o + rpl r + j) := by unfold rof; rw [decide_eq_true h, decide_eq_true h2]; rfl
theorem rof_1 {me : Nat → Bool} {o r j : Nat} (h : ¬ r < 443) : rof me o r j = false := by unfold rof; rw [decide_eq_false h]; rfl
theorem rof_2 {me : Nat → Bool} {o r j : Nat} (h : ¬ j < 48) : rof me o r j = false := by unfold rof; rw [decide_eq_false h]; simp
theorem rof_ext {me me' : Nat → Bool} {o : Nat} (h : ∀ r j, r < 443 → j < 48 → me (o + rpl r + j) = me' (o + rpl r + j)) : rof me o = rof me' o := by
  funext r j
  by_cases h1 : r < 443
  · by_cases h2 : j < 48
    · rw [rof_y h1 h2, rof_y h1 h2, h r j h1 h2]
    · rw [rof_2 h2, rof_2 h2]
  · rw [rof_1 h1, rof_1 h1]
/-- a row function that is the cells' own -/
theorem rof_is {me : Nat → Bool} {o : Nat} {F : Nat → Nat → Bool} (h1 : ∀ r j, r < 443 → j < 48 → F r j = me (o + rpl r + j)) (h2 : ∀ r j, ¬ (r < 443 ∧ j < 48) → F r j = false) : F = rof me o := by
  funext r j
  by_cases h : r < 443 ∧ j < 48
  · rw [rof_y h.1 h.2, h1 r j h.1 h.2]
  · rw [h2 r j h]
    by_cases h3 : r < 443
    · rw [rof_2 (fun z => h ⟨h3, z⟩)]
    · rw [rof_1 h3]
theorem up_ne {α : Type} {f : Nat → α} {k j : Nat} {v : α} (h : ¬ j = k) : va_up f k v j = f j := by unfold va_up; rw [if_neg h]
theorem gof_y {dn : Nat → Bool} {d k : Nat} (h : k < 61) : gof dn d k = dn (61 * d + k) := by unfold gof; rw [decide_eq_true h]; rfl
theorem gof_n {dn : Nat → Bool} {d k : Nat} (h : ¬ k < 61) : gof dn d k = false := by unfold gof; rw [decide_eq_false h]; rfl
theorem br_key {dn : Nat → Bool} {a b : Nat} {x : Bool} (hb : b < 61) : va_up (gof dn) a (va_up (gof dn a) b x) = gof (va_up dn (61 * a + b) x) := by
  funext d k
  by_cases hk : k < 61
  · rw [gof_y hk]
    by_cases hd : d = a
    · subst hd
      rw [up_at]
      by_cases he : k = b
      · subst he; rw [up_at, up_at]
      · rw [up_ne he, up_ne (by omega), gof_y hk]
    · rw [up_ne hd, up_ne (by omega), gof_y hk]
  · rw [gof_n hk]
    by_cases hd : d = a
    · subst hd
      rw [up_at, up_ne (by omega), gof_n hk]
    · rw [up_ne hd, gof_n hk]
theorem br_keyv {dn : Nat → Bool} {a b : Nat} (hb : b < 61) : gof dn a b = dn (61 * a + b) := gof_y hb
theorem br_stop {n : Nat} {fd : Nat → Int} {a : Int} (ha : 0 ≤ a) : va_up (gdo n fd) a.toNat (va_up (gdo n fd a.toNat) n true) = gdo (n + 1) (va_up fd n a) := by
  funext d j
  show (if d = a.toNat then va_up (gdo n fd a.toNat) n true else gdo n fd d) j = (decide (j < n + 1) && decide (va_up fd n a j = (d : Int)))
  by_cases hj : j = n
  · subst hj
    rw [up_at]
    by_cases hd : d = a.toNat
    · rw [if_pos hd, up_at, decide_eq_true (by omega), decide_eq_true (by omega)]; rfl
    · rw [if_neg hd, decide_eq_false (show ¬ a = (d : Int) by omega)]
      unfold gdo
      rw [decide_eq_false (show ¬ j < j by omega)]; simp
  · rw [up_ne hj]
    have e : (if d = a.toNat then va_up (gdo n fd a.toNat) n true else gdo n fd d) j = gdo n fd d j := by
      by_cases hd : d = a.toNat
      · subst hd; rw [if_pos rfl, up_ne hj]
      · rw [if_neg hd]
    rw [e]
    unfold gdo
    by_cases h : j < n
    · rw [decide_eq_true h, decide_eq_true (show j < n + 1 by omega)]
    · rw [decide_eq_false h, decide_eq_false (show ¬ j < n + 1 by omega)]
theorem sco_eq {n : Nat} {fd : Nat → Int} {z q : Int} (hq : 0 ≤ q) (j : Nat) : sco (gdo n fd) n z q j = (decide (j < n) && msc fd z q j) := by
  unfold sco msc
  by_cases h : z = 1
  · rw [if_pos h]
    unfold gdo
    have e : (((q / 5).toNat : Nat) : Int) = q / 5 := by omega
    rw [e]
    congr 1
    exact decide_eq_decide.mpr ⟨fun a _ => a, fun a => a h⟩
  · rw [if_neg h, decide_eq_true (show z = 1 → fd j = q / 5 from fun a => absurd a h)]; simp
theorem pl_rw {lv z q : Int} (h1 : 0 ≤ lv) (h2 : lv ≤ 7) (h3 : 0 ≤ q) (h4 : z = 0 ∧ q < 16 ∨ z = 1 ∧ q < 25 ∨ z = 2 ∧ q < 100) : (plc lv z q).toNat = 48 * (rwo lv z q).toNat ∧ (rwo lv z q).toNat < 428 := by
  unfold plc rwo
  rcases h4 with ⟨h, h5⟩ | ⟨h, h5⟩ | ⟨h, h5⟩ <;> subst h <;> simp <;> omega
theorem row_st {me h f : Nat → Bool} {r : Nat} (hr : r < 428) (he : ∀ j, f j = (decide (j < 48) && h j)) : va_up (rof me 0) r f = rof (stf me (48 * r) h 48) 0 := by
  refine rof_is (fun r' j h1 h2 => ?_) (fun r' j hn => ?_)
  · have hp := rpl_c r'
    unfold stf
    by_cases e : r' = r
    · subst e
      rw [up_at, he, decide_eq_true h2, if_pos (by omega), show 0 + rpl r' + j - 48 * r' = j by omega]; rfl
    · rw [up_ne e, rof_y h1 h2, if_neg (by omega)]
  · by_cases e : r' = r
    · subst e
      rw [up_at, he, decide_eq_false (fun z => hn ⟨by omega, z⟩)]; rfl
    · rw [up_ne e]
      by_cases h3 : r' < 443
      · exact rof_2 (fun z => hn ⟨h3, z⟩)
      · exact rof_1 h3
theorem br_set {kn me : Nat → Bool} {n : Nat} {fd : Nat → Int} {lv z q : Int} (hn : n ≤ 48) (h1 : 0 ≤ lv) (h2 : lv ≤ 7) (h3 : 0 ≤ q) (h4 : z = 0 ∧ q < 16 ∨ z = 1 ∧ q < 25 ∨ z = 2 ∧ q < 100) : va_up (rof me 0) (rwo lv z q).toNat (fun j => kn j && sco (gdo n fd) n z q j) = rof (stf me (plc lv z q).toNat (mrs kn n fd z q) 48) 0 := by
  obtain ⟨e1, e2⟩ := pl_rw h1 h2 h3 h4
  rw [e1]
  refine row_st e2 (fun j => ?_)
  show (kn j && sco (gdo n fd) n z q j) = (decide (j < 48) && (decide (j < n) && kn j && msc fd z q j))
  rw [sco_eq h3]
  by_cases h : j < n
  · rw [decide_eq_true h, decide_eq_true (show j < 48 by omega)]; simp
  · rw [decide_eq_false h]; simp
theorem br_setv {kn : Nat → Bool} {n : Nat} {fd : Nat → Int} {z q : Int} (hn : n ≤ 48) (h3 : 0 ≤ q) : cnt (fun j => kn j && sco (gdo n fd) n z q j) 64 = cnt (mrs kn n fd z q) 48 := by
  have e : cnt (fun j => kn j && sco (gdo n fd) n z q j) 64 = cnt (mrs kn n fd z q) 64 := cnt_ext (fun j _ => by
    show (kn j && sco (gdo n fd) n z q j) = (decide (j < n) && kn j && msc fd z q j)
    rw [sco_eq h3]
    cases kn j <;> simp)
  rw [e]
  exact cnt_ge (fun j h _ => by show (decide (j < n) && kn j && msc fd z q j) = false; rw [decide_eq_false (by omega)]; rfl) (by decide)
section REC
variable {kn me : Nat → Bool} {n r at_ : Nat} {fd ft : Nat → Int} {z q : Int}
theorem un_eq (hn : n ≤ 48) (h3 : 0 ≤ q) (hr : r < 428) (ha : at_ = 48 * r) {j : Nat} (hj : j < n) : un kn (rof me 0 r) (sco (gdo n fd) n z q) j = (msc fd z q j && mrd kn me at_ j) := by
  have hp := rpl_a hr
  unfold un mrd
  rw [sco_eq h3, rof_y (by omega) (by omega), decide_eq_true hj, hp, ha, Nat.zero_add, Bool.true_and]
  cases kn j <;> cases me (48 * r + j) <;> cases msc fd z q j <;> rfl
theorem un_no (h3 : 0 ≤ q) {j : Nat} (hj : ¬ j < n) : un kn (rof me 0 r) (sco (gdo n fd) n z q) j = false := by
  unfold un
  rw [sco_eq h3, decide_eq_false hj]; simp
theorem br_rec (hn : n ≤ 48) (h3 : 0 ≤ q) (hr : r < 428) (ha : at_ = 48 * r) : rcf ft (sco (gdo n fd) n z q) (un kn (rof me 0 r) (sco (gdo n fd) n z q)) n = rcf ft (msc fd z q) (mrd kn me at_) n := by
  funext j
  unfold rcf
  by_cases hj : j < n
  · rw [if_pos hj, if_pos hj, un_eq hn h3 hr ha hj, sco_eq h3, decide_eq_true hj, Bool.true_and]
    cases msc fd z q j <;> simp
  · rw [if_neg hj, if_neg hj]
theorem br_recv (hn : n ≤ 48) (h3 : 0 ≤ q) (hr : r < 428) (ha : at_ = 48 * r) : cnt (un kn (rof me 0 r) (sco (gdo n fd) n z q)) 64 = cnt (fun s => msc fd z q s && mrd kn me at_ s) n := by
  rw [cnt_ge (n := n) (fun j h _ => un_no h3 (by omega)) (by omega)]
  exact cnt_ext (fun j hj => un_eq hn h3 hr ha hj)
theorem mlj_c : ∀ k, mlj kn me fd z q at_ k = decide (cnt (fun s => msc fd z q s && mrd kn me at_ s) k = 0)
  | 0 => by rw [cnt_z]; rfl
  | k + 1 => by
    show (mlj kn me fd z q at_ k && (!msc fd z q k || kn k == me (at_ + k))) = _
    rw [mlj_c k, cnt_s]
    unfold mrd
    cases msc fd z q k <;> cases kn k <;> cases me (at_ + k) <;> simp
theorem br_lamp (hn : n ≤ 48) (h3 : 0 ≤ q) (hr : r < 428) (ha : at_ = 48 * r) : decide (cnt (un kn (rof me 0 r) (sco (gdo n fd) n z q)) 64 = 0) = mlj kn me fd z q at_ n := by
  rw [br_recv hn h3 hr ha, mlj_c]
end REC
theorem cp_row {me M : Nat → Bool} {sp dp k : Nat} (h1 : ∀ r j, r < 443 → j < 48 → M (0 + rpl r + j) = (if dp ≤ r ∧ r < dp + k then me (0 + rpl (sp + (r - dp)) + j) else me (0 + rpl r + j))) (h2 : dp + k ≤ 443) (h3 : sp + k ≤ 443) : va_cpy (rof me 0) (rof me 0) sp dp k = rof M 0 := by
  refine rof_is (fun r j hr hj => ?_) (fun r j hn => ?_)
  · rw [h1 r j hr hj]
    unfold va_cpy
    by_cases e : dp ≤ r ∧ r < dp + k
    · rw [if_pos e, if_pos e, rof_y (by omega) hj]
    · rw [if_neg e, if_neg e, rof_y hr hj]
  · unfold va_cpy
    by_cases e : dp ≤ r ∧ r < dp + k
    · rw [if_pos e, rof_2 (fun z => hn ⟨by omega, z⟩)]
    · rw [if_neg e]
      by_cases h3 : r < 443
      · exact rof_2 (fun z => hn ⟨h3, z⟩)
      · exact rof_1 h3
theorem br_del {me : Nat → Bool} {c F : Nat} (hc : c < F) (hF : F ≤ 100) : va_cpy (rof me 0) (rof me 0) (328 + c + 1) (328 + c) (F - 1 - c) = rof (mvd me (15744 + 48 * c) (15744 + 48 * (F - 1))) 0 := by
  refine cp_row (fun r j hr hj => ?_) (by omega) (by omega)
  have hp := rpl_c r
  unfold mvd
  by_cases e : 328 + c ≤ r ∧ r < 328 + c + (F - 1 - c)
  · have hq := rpl_a (show 328 + c + 1 + (r - (328 + c)) < 428 by omega)
    rw [if_pos e, if_pos (by omega), hq]
    congr 1
    omega
  · rw [if_neg e, if_neg (by omega)]
theorem br_ins {me kn : Nat → Bool} {c F n : Nat} {fd : Nat → Int} {lv q : Int} (hc : c ≤ F) (hF : F < 100) (hn : n ≤ 48) (hkn : ∀ j, n ≤ j → kn j = false) (hq : q = (c : Int)) :
    va_up (va_cpy (rof me 0) (rof me 0) (328 + c) (328 + c + 1) (F - c)) (328 + c) kn = rof (stf (mvi me (15744 + 48 * (c + 1)) (15744 + 48 * (F + 1)) (15744 + 48 * c) 0) (plc lv 2 q).toNat (mrs kn n fd 2 q) 48) 0 := by
  have e1 : (plc lv 2 q).toNat = 48 * (328 + c) := by
    unfold plc
    rw [if_neg (by decide), if_neg (by decide)]
    omega
  have e2 : va_cpy (rof me 0) (rof me 0) (328 + c) (328 + c + 1) (F - c) = rof (mvi me (15744 + 48 * (c + 1)) (15744 + 48 * (F + 1)) (15744 + 48 * c) 0) 0 := by
    refine cp_row (fun r j hr hj => ?_) (by omega) (by omega)
    have hp := rpl_c r
    unfold mvi
    by_cases e : 328 + c + 1 ≤ r ∧ r < 328 + c + 1 + (F - c)
    · have hq := rpl_a (show 328 + c + (r - (328 + c + 1)) < 428 by omega)
      rw [if_pos e, if_pos (by omega), hq]
      congr 1
      omega
    · rw [if_neg e, if_neg (by omega)]
  rw [e1, e2]
  refine row_st (by omega) (fun j => ?_)
  unfold mrs msc
  by_cases h : j < n
  · rw [decide_eq_true h, decide_eq_true (show j < 48 by omega)]; simp
  · rw [hkn j (by omega), decide_eq_false h]; simp
theorem br_asg {me : Nat → Bool} {a b : Int} {x : Bool} (ha : 1 ≤ a) (ha2 : a ≤ 15) (hb : 0 ≤ b) (hb2 : b < 48) : va_up (rof me 0) (428 + a - 1).toNat (va_up (rof me 0 (428 + a - 1).toNat) b.toNat x) = rof (va_up me (20544 + 48 * a.toNat + b.toNat) x) 0 := by
  refine rof_is (fun r j hr hj => ?_) (fun r j hn => ?_)
  · have hp := rpl_c r
    by_cases e : r = (428 + a - 1).toNat
    · subst e
      rw [up_at]
      by_cases e2 : j = b.toNat
      · subst e2
        rw [up_at, show 0 + rpl (428 + a - 1).toNat + b.toNat = 20544 + 48 * a.toNat + b.toNat by omega, up_at]
      · rw [up_ne e2, up_ne (by omega), rof_y hr hj]
    · rw [up_ne e, up_ne (by omega), rof_y hr hj]
  · by_cases e : r = (428 + a - 1).toNat
    · subst e
      rw [up_at, up_ne (fun z => hn ⟨by omega, by omega⟩)]
      exact rof_2 (fun z => hn ⟨by omega, z⟩)
    · rw [up_ne e]
      by_cases h3 : r < 443
      · exact rof_2 (fun z => hn ⟨h3, z⟩)
      · exact rof_1 h3
theorem br_asgv {me : Nat → Bool} {a b : Int} (ha : 1 ≤ a) (ha2 : a ≤ 15) (hb : 0 ≤ b) (hb2 : b < 48) : rof me 0 (428 + a - 1).toNat b.toNat = me (20544 + 48 * a.toNat + b.toNat) := by
  rw [rof_y (by omega) (by omega)]
  have hp := rpl_c (428 + a - 1).toNat
  congr 1
  omega
theorem br_tft {ft : Nat → Int} {n : Nat} {a : Int} (ha : 0 ≤ a) : pff ft a n = tkp ft n a.toNat 0 := by
  funext j
  unfold pff tkp tku
  have e : ((a.toNat : Nat) : Int) = a := by omega
  rw [if_neg (Nat.not_lt_zero j), e]
  repeat' split
  all_goals omega
theorem br_tkn {kn tg : Nat → Bool} {ft fc : Nat → Int} {n : Nat} {a : Int} (ha : 0 ≤ a) (h : ∀ s, 0 < ft s → tg s = !kn s) : pfk kn ft fc a n = tkk kn tg ft fc n a.toNat 0 := by
  funext j
  unfold pfk tkk tku pfm
  have e : ((a.toNat : Nat) : Int) = a := by omega
  rw [if_neg (Nat.not_lt_zero j), e]
  by_cases hj : j < n
  · rw [if_pos hj]
    by_cases h2 : 0 < ft j ∧ ft j ≤ a ∧ fc j = 0
    · rw [if_pos (by rw [decide_eq_true h2.1, decide_eq_true h2.2.1, decide_eq_true h2.2.2]; rfl), if_pos ⟨hj, h2⟩, h j h2.1]
    · rw [if_neg (fun z => h2 (by simp only [Bool.and_eq_true, decide_eq_true_eq] at z; exact ⟨z.1.1, z.1.2, z.2⟩)), if_neg (fun z => h2 z.2)]
  · rw [if_neg hj, if_neg (fun z => hj z.1)]
/-! versions and copies -/
theorem vof_y {ve : Nat → Int} {o p : Nat} (h : p < 9) : vof ve o p = ve (o + p) := by unfold vof; rw [if_pos h]
theorem zof_y {sp : Nat → Bool} {o p : Nat} (h : p < 9) : zof sp o p = sp (o + p) := by unfold zof; rw [decide_eq_true h]; rfl
theorem vof_in {ve : Nat → Int} {o : Nat} {B : Int} (hB : 0 ≤ B) (h : ∀ p, 0 ≤ ve p ∧ ve p ≤ B) : ∀ p, 0 ≤ vof ve o p ∧ vof ve o p ≤ B := by
  intro p
  have := h (o + p)
  unfold vof
  split <;> omega
theorem cd_sp {ve : Nat → Int} {z q : Int} : cd_spoil z q (vof ve 0) (vof ve 9) = cd_spoil z q ve (fun p => ve (9 + p)) := by
  unfold cd_spoil
  by_cases h : 0 ≤ z ∧ z < 2 ∧ 0 ≤ q ∧ q ≤ 8
  · have hh : ¬ ¬ (0 ≤ z ∧ z < 2 ∧ 0 ≤ q ∧ q ≤ 8) := fun a => a h
    have hq : q.toNat < 9 := by omega
    rw [if_neg hh, if_neg hh, vof_y hq, vof_y hq, Nat.zero_add]
  · rw [if_pos h, if_pos h]
theorem br_spv {ve : Nat → Int} {z q : Int} (h : 0 ≤ z ∧ z < 2 ∧ 0 ≤ q ∧ q ≤ 8) : (if z = 0 then vof ve 0 q.toNat else vof ve 9 q.toNat) = ve (9 * z.toNat + q.toNat) := by
  rw [vof_y (by omega), vof_y (by omega)]
  by_cases hz : z = 0
  · subst hz; rw [if_pos rfl]; simp
  · have : z = 1 := by omega
    subst this; rw [if_neg (by decide)]; simp
theorem br_sp0 {sp : Nat → Bool} {z q : Int} (h : 0 ≤ z ∧ z < 2 ∧ 0 ≤ q ∧ q ≤ 8) : (if z = 0 then va_up (zof sp 0) q.toNat (!zof sp 0 q.toNat) else zof sp 0) = zof (va_up sp (9 * z.toNat + q.toNat) (!sp (9 * z.toNat + q.toNat))) 0 := by
  funext p
  by_cases hz : z = 0
  · subst hz
    rw [if_pos rfl]
    by_cases hp : p = q.toNat
    · subst hp
      rw [up_at, zof_y (by omega), zof_y (by omega)]
      simp [va_up]
    · rw [up_ne hp]
      unfold zof
      rw [up_ne (by simp; omega)]
  · rw [if_neg hz]
    unfold zof
    by_cases h9 : p < 9
    · rw [up_ne (by omega)]
    · rw [decide_eq_false h9]; rfl
theorem br_sp9 {sp : Nat → Bool} {z q : Int} (h : 0 ≤ z ∧ z < 2 ∧ 0 ≤ q ∧ q ≤ 8) : (if z = 0 then zof sp 9 else va_up (zof sp 9) q.toNat (!zof sp 9 q.toNat)) = zof (va_up sp (9 * z.toNat + q.toNat) (!sp (9 * z.toNat + q.toNat))) 9 := by
  funext p
  by_cases hz : z = 0
  · subst hz
    rw [if_pos rfl]
    unfold zof
    rw [up_ne (by simp; omega)]
  · have : z = 1 := by omega
    subst this
    rw [if_neg (by decide)]
    by_cases hp : p = q.toNat
    · subst hp
      rw [up_at, zof_y (by omega), zof_y (by omega)]
      simp [va_up]
    · rw [up_ne hp]
      unfold zof
      rw [up_ne (by simp; omega)]
theorem mwh_iff {ve : Nat → Int} {sp : Nat → Bool} {c : Nat} : ∀ k, mwh ve sp c k = true ↔ (0 < ve (9 * c) ∧ ∀ p, p < k → ve (9 * c + p) = ve (9 * c) ∧ sp (9 * c + p) = false)
  | 0 => ⟨fun h => ⟨of_decide_eq_true h, fun p hp => absurd hp (Nat.not_lt_zero p)⟩, fun h => decide_eq_true h.1⟩
  | k + 1 => by
    show (mwh ve sp c k && decide (ve (9 * c + k) = ve (9 * c)) && !sp (9 * c + k)) = true ↔ _
    simp only [Bool.and_eq_true, decide_eq_true_eq, Bool.not_eq_true', mwh_iff k]
    refine ⟨fun h => ⟨h.1.1.1, fun p hp => ?_⟩, fun h => ⟨⟨⟨h.1, fun p hp => h.2 p (by omega)⟩, (h.2 k (by omega)).1⟩, (h.2 k (by omega)).2⟩⟩
    by_cases e : p = k
    · subst e; exact ⟨h.1.2, h.2⟩
    · exact h.1.1.2 p (by omega)
theorem wv_w {ve : Nat → Int} {sp : Nat → Bool} {c : Nat} (h0 : ∀ p, 0 ≤ ve p) : (mwh ve sp c 9 = true ∧ wv (vof ve (9 * c)) (zof sp (9 * c)) = ve (9 * c) ∧ 0 < ve (9 * c) ∧ ve (9 * c + 8) = ve (9 * c)) ∨ (mwh ve sp c 9 = false ∧ wv (vof ve (9 * c)) (zof sp (9 * c)) = 0) := by
  have hi := mwh_iff (ve := ve) (sp := sp) (c := c) 9
  cases hm : mwh ve sp c 9 with
  | true =>
    obtain ⟨h1, h2⟩ := hi.mp hm
    left
    refine ⟨rfl, ?_, h1, (h2 8 (by decide)).1⟩
    rw [wv_t (fun p hp => ⟨by rw [zof_y hp]; exact (h2 p hp).2, by rw [vof_y hp, vof_y (by decide), (h2 p hp).1, (h2 8 (by decide)).1]⟩), vof_y (by decide), (h2 8 (by decide)).1]
  | false =>
    right
    refine ⟨rfl, ?_⟩
    by_cases hw : wh (vof ve (9 * c)) (zof sp (9 * c))
    · rw [wv_t hw, vof_y (by decide)]
      have h8 := h0 (9 * c + 8)
      by_cases hz : ve (9 * c + 8) = 0
      · exact hz
      · exfalso
        have key : ∀ p, p < 9 → ve (9 * c + p) = ve (9 * c + 8) ∧ sp (9 * c + p) = false := fun p hp => by
          have := hw p hp
          rw [zof_y hp, vof_y hp, vof_y (by decide)] at this
          exact ⟨this.2, this.1⟩
        have k0 := (key 0 (by decide)).1
        rw [Nat.add_zero] at k0
        have := hi.mpr ⟨by omega, fun p hp => ⟨by rw [(key p hp).1, k0], (key p hp).2⟩⟩
        rw [hm] at this
        cases this
    · exact wv_f hw
theorem br_nf {ve : Nat → Int} {sp : Nat → Bool} (h0 : ∀ p, 0 ≤ ve p) : nw (wv (vof ve 0) (zof sp 0)) (wv (vof ve 9) (zof sp 9)) = mnf (mwh ve sp 0 9) (mwh ve sp 1 9) (ve 0) (ve 9) := by
  have a := wv_w (sp := sp) (c := 0) h0
  have b := wv_w (sp := sp) (c := 1) h0
  simp only [Nat.mul_zero, Nat.mul_one] at a b
  unfold nw mnf
  rcases a with ⟨a1, a2, a3, -⟩ | ⟨a1, a2⟩ <;> rcases b with ⟨b1, b2, b3, -⟩ | ⟨b1, b2⟩ <;> rw [a1, a2, b1, b2] <;> simp <;> (repeat' split) <;> omega
/-- in force: the mark has the first page's version -/
theorem nf_8 {ve : Nat → Int} {sp : Nat → Bool} (h0 : ∀ p, 0 ≤ ve p) (h : 0 ≤ mnf (mwh ve sp 0 9) (mwh ve sp 1 9) (ve 0) (ve 9)) : ve (9 * (mnf (mwh ve sp 0 9) (mwh ve sp 1 9) (ve 0) (ve 9)).toNat + 8) = ve (9 * (mnf (mwh ve sp 0 9) (mwh ve sp 1 9) (ve 0) (ve 9)).toNat) := by
  have a := wv_w (sp := sp) (c := 0) h0
  have b := wv_w (sp := sp) (c := 1) h0
  simp only [Nat.mul_zero, Nat.mul_one] at a b
  generalize hx : mnf (mwh ve sp 0 9) (mwh ve sp 1 9) (ve 0) (ve 9) = x at h ⊢
  have hi := mnf_in (mwh ve sp 0 9) (mwh ve sp 1 9) (ve 0) (ve 9)
  rw [hx] at hi
  rcases hi with hi | hi | hi
  · omega
  · subst hi
    rcases a with ⟨a1, a2, a3, a4⟩ | ⟨a1, a2⟩
    · exact a4
    · rw [a1] at hx
      unfold mnf at hx
      simp at hx
      split at hx <;> omega
  · subst hi
    rcases b with ⟨b1, b2, b3, b4⟩ | ⟨b1, b2⟩
    · exact b4
    · rw [b1] at hx
      unfold mnf at hx
      simp at hx
      split at hx <;> omega
theorem br_ver {ve : Nat → Int} {x : Int} (hx : x = -1 ∨ x = 0 ∨ x = 1) (h : 0 ≤ x → ve (9 * x.toNat + 8) = ve (9 * x.toNat)) : (if x = -1 then 0 else if x = 0 then vof ve 0 8 else vof ve 9 8) = (if x < 0 then 0 else ve (9 * x.toNat)) := by
  rw [vof_y (by decide), vof_y (by decide)]
  rcases hx with rfl | rfl | rfl
  · rfl
  · rw [if_neg (by decide), if_pos rfl, if_neg (by decide)]; exact h (by decide)
  · rw [if_neg (by decide), if_neg (by decide), if_neg (by decide)]; exact h (by decide)
theorem cp_all {me cp : Nat → Bool} {o : Nat} {M : Nat → Bool} (h : ∀ k, k < 21312 → M k = cp (o + k)) : va_cpy (rof cp o) (rof me 0) 0 0 443 = rof M 0 := by
  refine rof_is (fun r j hr hj => ?_) (fun r j hn => ?_)
  · have hp := rpl_c r
    unfold va_cpy
    rw [if_pos (by omega), show 0 + (r - 0) = r by omega, rof_y hr hj, h _ (by omega)]
    congr 1
    omega
  · unfold va_cpy
    by_cases e : 0 ≤ r ∧ r < 0 + 443
    · rw [if_pos e, rof_2 (fun z => hn ⟨by omega, z⟩)]
    · rw [if_neg e]
      by_cases h3 : r < 443
      · exact rof_2 (fun z => hn ⟨h3, z⟩)
      · exact rof_1 h3
theorem br_me {me cp : Nat → Bool} {x : Int} (hx : x = -1 ∨ x = 0 ∨ x = 1) : (if x = -1 then flf (rof me 0) (fun _ => false) 443 else if x = 0 then va_cpy (rof cp 0) (rof me 0) 0 0 443 else va_cpy (rof cp 21312) (rof me 0) 0 0 443) = rof (gff me (rbf cp x) 21312) 0 := by
  rcases hx with rfl | rfl | rfl
  · rw [if_pos rfl]
    refine rof_is (fun r j hr hj => ?_) (fun r j hn => ?_)
    · have hp := rpl_c r
      unfold flf gff
      rw [if_pos hr, if_pos (by omega)]
      rfl
    · unfold flf
      by_cases e : r < 443
      · rw [if_pos e]
      · rw [if_neg e, rof_1 e]
  · rw [if_neg (by decide), if_pos rfl]
    refine cp_all (fun k hk => ?_)
    unfold gff rbf
    rw [if_pos hk]
    simp
  · rw [if_neg (by decide), if_neg (by decide)]
    refine cp_all (fun k hk => ?_)
    unfold gff rbf
    rw [if_pos hk]
    simp
theorem br_fm {cf : Nat → Int} {x : Int} (hx : x = -1 ∨ x = 0 ∨ x = 1) : (if x = -1 then 0 else if x = 0 then cf 0 else cf 1) = (if 0 ≤ x then cf x.toNat else 0) := by
  rcases hx with rfl | rfl | rfl <;> rfl
theorem gv_18 {ve : Nat → Int} (h0 : ∀ p, 0 ≤ ve p) : gv ve 18 = max (gv (vof ve 0) 9) (gv (vof ve 9) 9) := by
  have e : ∀ (o k : Nat), k ≤ 9 → gv (vof ve o) k = gv (fun p => ve (o + p)) k := fun o k => by
    induction k with
    | zero => intro _; rfl
    | succ k ih =>
      intro hk
      show max (gv (vof ve o) k) (vof ve o k) = max (gv (fun p => ve (o + p)) k) (ve (o + k))
      rw [ih (by omega), vof_y (by omega)]
  have add : ∀ k, gv ve (9 + k) = max (gv ve 9) (gv (fun p => ve (9 + p)) k) := fun k => by
    induction k with
    | zero =>
      show gv ve 9 = max (gv ve 9) 0
      have h9 : 0 ≤ gv ve 9 := by
        show 0 ≤ max (gv ve 8) (ve 8)
        have := h0 8
        omega
      omega
    | succ k ih =>
      show max (gv ve (9 + k)) (ve (9 + k)) = max (gv ve 9) (max (gv (fun p => ve (9 + p)) k) (ve (9 + k)))
      rw [ih]
      omega
  rw [e 0 9 (by decide), e 9 9 (by decide), show (18 : Nat) = 9 + 9 from rfl, add 9]
  congr 2
  funext p
  rw [Nat.zero_add]
theorem br_v0 {ve : Nat → Int} {nf v : Int} {k : Nat} (hk : k ≤ 9) : (if ¬ nf = 0 then flf (vof ve 0) v k else vof ve 0) = vof (wrf ve (9 * tof nf) v k) 0 := by
  funext p
  unfold tof
  by_cases h : nf = 0
  · rw [if_neg (fun z => z h), if_pos h]
    unfold vof wrf
    by_cases hp : p < 9
    · rw [if_pos hp, if_pos hp, if_neg (by omega)]
    · rw [if_neg hp, if_neg hp]
  · rw [if_pos h, if_neg h]
    unfold flf vof wrf
    by_cases hp : p < 9
    · rw [if_pos hp, if_pos hp]
      by_cases h2 : p < k
      · rw [if_pos h2, if_pos (by omega)]
      · rw [if_neg h2, if_neg (by omega)]
    · rw [if_neg hp, if_neg hp, if_neg (by omega)]
theorem br_v9 {ve : Nat → Int} {nf v : Int} {k : Nat} (hk : k ≤ 9) : (if nf = 0 then flf (vof ve 9) v k else vof ve 9) = vof (wrf ve (9 * tof nf) v k) 9 := by
  funext p
  unfold tof
  by_cases h : nf = 0
  · rw [if_pos h, if_pos h]
    unfold flf vof wrf
    by_cases hp : p < 9
    · rw [if_pos hp, if_pos hp]
      by_cases h2 : p < k
      · rw [if_pos h2, if_pos (by omega)]
      · rw [if_neg h2, if_neg (by omega)]
    · rw [if_neg hp, if_neg hp, if_neg (by omega)]
  · rw [if_neg h, if_neg h]
    unfold vof wrf
    by_cases hp : p < 9
    · rw [if_pos hp, if_pos hp, if_neg (by omega)]
    · rw [if_neg hp, if_neg hp]
theorem br_z0 {sp : Nat → Bool} {nf : Int} {k : Nat} (hk : k ≤ 9) : (if ¬ nf = 0 then flf (zof sp 0) false k else zof sp 0) = zof (wrf sp (9 * tof nf) false k) 0 := by
  funext p
  unfold tof
  by_cases h : nf = 0
  · rw [if_neg (fun z => z h), if_pos h]
    unfold zof wrf
    by_cases hp : p < 9
    · rw [if_neg (by omega)]
    · rw [decide_eq_false hp]; rfl
  · rw [if_pos h, if_neg h]
    unfold flf zof wrf
    by_cases hp : p < 9
    · by_cases h2 : p < k
      · rw [if_pos h2, if_pos (by omega)]; simp
      · rw [if_neg h2, if_neg (by omega)]
    · rw [decide_eq_false hp, if_neg (by omega)]; rfl
theorem br_z9 {sp : Nat → Bool} {nf : Int} {k : Nat} (hk : k ≤ 9) : (if nf = 0 then flf (zof sp 9) false k else zof sp 9) = zof (wrf sp (9 * tof nf) false k) 9 := by
  funext p
  unfold tof
  by_cases h : nf = 0
  · rw [if_pos h, if_pos h]
    unfold flf zof wrf
    by_cases hp : p < 9
    · by_cases h2 : p < k
      · rw [if_pos h2, if_pos (by omega)]; simp
      · rw [if_neg h2, if_neg (by omega)]
    · rw [decide_eq_false hp, if_neg (by omega)]; rfl
  · rw [if_neg h, if_neg h]
    unfold zof wrf
    by_cases hp : p < 9
    · rw [if_neg (by omega)]
    · rw [decide_eq_false hp]; rfl
theorem cp_to {me cp M : Nat → Bool} {o : Nat} (h : ∀ k, k < 21312 → M (o + k) = me k) : va_cpy (rof me 0) (rof cp o) 0 0 443 = rof M o := by
  refine rof_is (fun r j hr hj => ?_) (fun r j hn => ?_)
  · have hp := rpl_c r
    unfold va_cpy
    rw [if_pos (by omega), show 0 + (r - 0) = r by omega, rof_y hr hj, Nat.add_assoc o, h _ (by omega), Nat.zero_add]
  · unfold va_cpy
    by_cases e : 0 ≤ r ∧ r < 0 + 443
    · rw [if_pos e, rof_2 (fun z => hn ⟨by omega, z⟩)]
    · rw [if_neg e]
      by_cases h3 : r < 443
      · exact rof_2 (fun z => hn ⟨h3, z⟩)
      · exact rof_1 h3
theorem br_c0 {me cp : Nat → Bool} {nf : Int} : (if ¬ nf = 0 then va_cpy (rof me 0) (rof cp 0) 0 0 443 else rof cp 0) = rof (stf cp (21312 * tof nf) me 21312) 0 := by
  unfold tof
  by_cases h : nf = 0
  · rw [if_neg (fun z => z h), if_pos h]
    refine rof_ext (fun r j hr hj => ?_)
    have hp := rpl_c r
    unfold stf
    rw [if_neg (by omega)]
  · rw [if_pos h, if_neg h]
    refine cp_to (fun k hk => ?_)
    unfold stf
    rw [if_pos (by omega)]
    congr 1
    omega
theorem br_c9 {me cp : Nat → Bool} {nf : Int} : (if nf = 0 then va_cpy (rof me 0) (rof cp 21312) 0 0 443 else rof cp 21312) = rof (stf cp (21312 * tof nf) me 21312) 21312 := by
  unfold tof
  by_cases h : nf = 0
  · rw [if_pos h, if_pos h]
    refine cp_to (fun k hk => ?_)
    unfold stf
    rw [if_pos (by omega), show 21312 * 1 = 21312 from rfl, Nat.add_sub_cancel_left]
  · rw [if_neg h, if_neg h]
    refine rof_ext (fun r j hr hj => ?_)
    have hp := rpl_c r
    unfold stf
    rw [if_neg (by omega)]
theorem br_f0 {cf : Nat → Int} {nf fm : Int} : (if ¬ nf = 0 then fm else cf 0) = va_up cf (tof nf) fm 0 := by
  unfold tof va_up
  by_cases h : nf = 0
  · rw [if_neg (fun z => z h), if_pos h, if_neg (by decide)]
  · rw [if_pos h, if_neg h, if_pos rfl]
theorem br_f1 {cf : Nat → Int} {nf fm : Int} : (if nf = 0 then fm else cf 1) = va_up cf (tof nf) fm 1 := by
  unfold tof va_up
  by_cases h : nf = 0
  · rw [if_pos h, if_pos h, if_pos rfl]
  · rw [if_neg h, if_neg h, if_neg (by decide)]
