/-! Long.bitCount, on numbers: digits of 1, 2, 4, 8 bits -/
def bb (f : Nat → Bool) (j : Nat) : Nat := if f j = true then 1 else 0
theorem bb_le (f : Nat → Bool) (j : Nat) : bb f j ≤ 1 := by unfold bb; split <;> omega
def dg (w : Nat) (d : Nat → Nat) : Nat → Nat
  | 0 => 0
  | n + 1 => dg w d n + d n * 2 ^ (w * n)
theorem dg_ext {w : Nat} {d e : Nat → Nat} : ∀ {n : Nat}, (∀ j, j < n → d j = e j) → dg w d n = dg w e n
  | 0, _ => rfl
  | n + 1, h => by
    show dg w d n + d n * 2 ^ (w * n) = dg w e n + e n * 2 ^ (w * n)
    rw [dg_ext (fun j hj => h j (Nat.lt_succ_of_lt hj)), h n (Nat.lt_succ_self n)]
theorem dg_add (w : Nat) (d e : Nat → Nat) : ∀ n, dg w d n + dg w e n = dg w (fun j => d j + e j) n
  | 0 => rfl
  | n + 1 => by
    have ih := dg_add w d e n
    show (dg w d n + d n * 2 ^ (w * n)) + (dg w e n + e n * 2 ^ (w * n)) = dg w (fun j => d j + e j) n + (d n + e n) * 2 ^ (w * n)
    rw [← ih, Nat.add_mul]
    omega
theorem dg_shift (w : Nat) (d : Nat → Nat) : ∀ n, dg w d (n + 1) = d 0 + 2 ^ w * dg w (fun j => d (j + 1)) n
  | 0 => by
    show 0 + d 0 * 2 ^ (w * 0) = d 0 + 2 ^ w * 0
    simp
  | n + 1 => by
    have ih := dg_shift w d n
    show dg w d (n + 1) + d (n + 1) * 2 ^ (w * (n + 1)) = d 0 + 2 ^ w * (dg w (fun j => d (j + 1)) n + d (n + 1) * 2 ^ (w * n))
    have e1 : 2 ^ (w * (n + 1)) = 2 ^ w * 2 ^ (w * n) := by rw [Nat.mul_succ, Nat.pow_add, Nat.mul_comm]
    have e2 : d (n + 1) * (2 ^ w * 2 ^ (w * n)) = 2 ^ w * (d (n + 1) * 2 ^ (w * n)) := Nat.mul_left_comm _ _ _
    have e3 : 2 ^ w * (dg w (fun j => d (j + 1)) n + d (n + 1) * 2 ^ (w * n)) = 2 ^ w * dg w (fun j => d (j + 1)) n + 2 ^ w * (d (n + 1) * 2 ^ (w * n)) := Nat.mul_add _ _ _
    rw [ih, e1, e2, e3]
    omega
theorem dg_div {w : Nat} {d : Nat → Nat} {n : Nat} (h0 : d 0 < 2 ^ w) (hn : d n = 0) : dg w d n / 2 ^ w = dg w (fun j => d (j + 1)) n := by
  have h1 := dg_shift w d n
  have h2 : dg w d (n + 1) = dg w d n := by
    show dg w d n + d n * 2 ^ (w * n) = dg w d n
    rw [hn]
    simp
  rw [← h2, h1, Nat.add_mul_div_left _ _ (Nat.two_pow_pos w), Nat.div_eq_of_lt h0, Nat.zero_add]
theorem dg_lt {w : Nat} {d : Nat → Nat} : ∀ {n : Nat}, (∀ j, j < n → d j < 2 ^ w) → dg w d n < 2 ^ (w * n)
  | 0, _ => by show (0 : Nat) < 2 ^ (w * 0); exact Nat.two_pow_pos _
  | n + 1, h => by
    have ih := dg_lt (fun j hj => h j (Nat.lt_succ_of_lt hj))
    have h1 := h n (Nat.lt_succ_self n)
    have h2 : (d n + 1) * 2 ^ (w * n) ≤ 2 ^ w * 2 ^ (w * n) := Nat.mul_le_mul_right _ h1
    have h3 : 2 ^ (w * (n + 1)) = 2 ^ w * 2 ^ (w * n) := by rw [Nat.mul_succ, Nat.pow_add, Nat.mul_comm]
    rw [Nat.add_mul, Nat.one_mul] at h2
    show dg w d n + d n * 2 ^ (w * n) < 2 ^ (w * (n + 1))
    omega
theorem and_cat {k a b c e : Nat} (ha : a < 2 ^ k) (hc : c < 2 ^ k) : (a + b * 2 ^ k) &&& (c + e * 2 ^ k) = (a &&& c) + (b &&& e) * 2 ^ k := by
  have e1 : a + b * 2 ^ k = 2 ^ k * b + a := by rw [Nat.mul_comm]; omega
  have e2 : c + e * 2 ^ k = 2 ^ k * e + c := by rw [Nat.mul_comm]; omega
  have e3 : (a &&& c) + (b &&& e) * 2 ^ k = 2 ^ k * (b &&& e) + (a &&& c) := by rw [Nat.mul_comm]; omega
  rw [e1, e2, e3]
  apply Nat.eq_of_testBit_eq
  intro j
  rw [Nat.testBit_and, Nat.testBit_two_pow_mul_add _ ha, Nat.testBit_two_pow_mul_add _ hc, Nat.testBit_two_pow_mul_add _ (Nat.and_lt_two_pow _ hc)]
  by_cases h : j < k
  · rw [if_pos h, if_pos h, if_pos h, Nat.testBit_and]
  · rw [if_neg h, if_neg h, if_neg h, Nat.testBit_and]
theorem dg_and {w : Nat} {d e : Nat → Nat} : ∀ {n : Nat}, (∀ j, j < n → d j < 2 ^ w) → (∀ j, j < n → e j < 2 ^ w) → dg w d n &&& dg w e n = dg w (fun j => d j &&& e j) n
  | 0, _, _ => by simp [dg]
  | n + 1, h1, h2 => by
    have a1 : ∀ j, j < n → d j < 2 ^ w := fun j hj => h1 j (Nat.lt_succ_of_lt hj)
    have a2 : ∀ j, j < n → e j < 2 ^ w := fun j hj => h2 j (Nat.lt_succ_of_lt hj)
    show (dg w d n + d n * 2 ^ (w * n)) &&& (dg w e n + e n * 2 ^ (w * n)) = dg w (fun j => d j &&& e j) n + (d n &&& e n) * 2 ^ (w * n)
    rw [and_cat (dg_lt a1) (dg_lt a2), dg_and a1 a2]
theorem dg_pair (w : Nat) (d : Nat → Nat) : ∀ n, dg w d (2 * n) = dg (2 * w) (fun j => d (2 * j) + d (2 * j + 1) * 2 ^ w) n
  | 0 => rfl
  | n + 1 => by
    have ih := dg_pair w d n
    have e1 : w * (2 * n) = 2 * w * n := by rw [Nat.mul_left_comm, Nat.mul_assoc]
    have e2 : 2 ^ (w * (2 * n + 1)) = 2 ^ w * 2 ^ (2 * w * n) := by rw [Nat.mul_succ, Nat.pow_add, Nat.mul_comm, e1]
    show (dg w d (2 * n) + d (2 * n) * 2 ^ (w * (2 * n))) + d (2 * n + 1) * 2 ^ (w * (2 * n + 1)) = dg (2 * w) (fun j => d (2 * j) + d (2 * j + 1) * 2 ^ w) n + (d (2 * n) + d (2 * n + 1) * 2 ^ w) * 2 ^ (2 * w * n)
    have e3 : d (2 * n + 1) * 2 ^ w * 2 ^ (2 * w * n) = d (2 * n + 1) * (2 ^ w * 2 ^ (2 * w * n)) := Nat.mul_assoc _ _ _
    rw [ih, e2, e1, Nat.add_mul, e3]
    omega
theorem bN_dg (f : Nat → Bool) : ∀ n, bN f n = dg 1 (bb f) n
  | 0 => rfl
  | n + 1 => by
    have ih := bN_dg f n
    show bN f n + (if f n = true then 2 ^ n else 0) = dg 1 (bb f) n + bb f n * 2 ^ (1 * n)
    rw [ih, Nat.one_mul]
    unfold bb
    split <;> simp
def pm5 : Nat := 6148914691236517205
def pm3 : Nat := 3689348814741910323
def pmf : Nat := 1085102592571150095
def pp1 (X : Nat) : Nat := X - (X / 2 ^ 1 &&& pm5)
def pp2 (X : Nat) : Nat := (X &&& pm3) + (X / 2 ^ 2 &&& pm3)
def pp3 (X : Nat) : Nat := (X + X / 2 ^ 4) &&& pmf
def pp4 (k X : Nat) : Nat := X + X / 2 ^ k
section
variable {f : Nat → Bool} (hf : ∀ j, 64 ≤ j → f j = false)
theorem pop_o (hf : ∀ j, 64 ≤ j → f j = false) : bN f 64 / 2 ^ 1 &&& pm5 = dg 2 (fun j => bb f (2 * j + 1)) 32 := by
  have h1 : pm5 = dg 1 (fun j => (j + 1) % 2) 64 := by decide +kernel
  have h2 : bb f 64 = 0 := by unfold bb; rw [hf 64 (Nat.le_refl 64)]; rfl
  rw [bN_dg, dg_div (by have := bb_le f 0; omega) h2, h1, dg_and (fun j _ => by have := bb_le f (j + 1); show bb f (j + 1) < 2 ^ 1; omega) (fun j _ => by show (j + 1) % 2 < 2 ^ 1; omega)]
  have h3 := dg_pair 1 (fun j => bb f (j + 1) &&& (j + 1) % 2) 32
  refine h3.trans (dg_ext (fun j _ => ?_))
  have b1 : bb f (2 * j + 1) < 2 := by have := bb_le f (2 * j + 1); omega
  show (bb f (2 * j + 1) &&& (2 * j + 1) % 2) + (bb f (2 * j + 1 + 1) &&& (2 * j + 1 + 1) % 2) * 2 ^ 1 = bb f (2 * j + 1)
  rw [show (2 * j + 1) % 2 = 1 by omega, show (2 * j + 1 + 1) % 2 = 0 by omega, Nat.and_zero, Nat.zero_mul, Nat.add_zero, show (1 : Nat) = 2 ^ 1 - 1 from rfl, Nat.and_two_pow_sub_one_eq_mod, Nat.mod_eq_of_lt b1]
theorem pop_x : bN f 64 = dg 2 (fun j => bb f (2 * j) + bb f (2 * j + 1)) 32 + dg 2 (fun j => bb f (2 * j + 1)) 32 := by
  rw [bN_dg, dg_add]
  have h3 := dg_pair 1 (bb f) 32
  refine h3.trans (dg_ext (fun j _ => ?_))
  show bb f (2 * j) + bb f (2 * j + 1) * 2 ^ 1 = _
  omega
theorem pop_1le (hf : ∀ j, 64 ≤ j → f j = false) : (bN f 64 / 2 ^ 1 &&& pm5) ≤ bN f 64 := by
  rw [pop_o hf]
  have := pop_x (f := f)
  omega
theorem pop_1 (hf : ∀ j, 64 ≤ j → f j = false) : pp1 (bN f 64) = dg 2 (fun j => bb f (2 * j) + bb f (2 * j + 1)) 32 := by
  unfold pp1
  rw [pop_o hf]
  have := pop_x (f := f)
  omega
theorem and3 {a b : Nat} (h : a < 2 ^ 2) : (a + b * 2 ^ 2) &&& 3 = a := by
  rw [show (3 : Nat) = 2 ^ 2 - 1 from rfl, Nat.and_two_pow_sub_one_eq_mod]
  omega
theorem and15 {a b : Nat} (h : a < 2 ^ 4) : (a + b * 2 ^ 4) &&& 15 = a := by
  rw [show (15 : Nat) = 2 ^ 4 - 1 from rfl, Nat.and_two_pow_sub_one_eq_mod]
  omega
theorem pop_2g {c : Nat → Nat} (hc : ∀ j, c j ≤ 2) (h32 : c 32 = 0) : pp2 (dg 2 c 32) = dg 4 (fun j => c (2 * j) + c (2 * j + 1)) 16 := by
  have hm : pm3 = dg 4 (fun _ => 3) 16 := by decide +kernel
  have lo : dg 2 c 32 &&& pm3 = dg 4 (fun j => c (2 * j)) 16 := by
    rw [hm, show dg 2 c 32 = dg 4 (fun j => c (2 * j) + c (2 * j + 1) * 2 ^ 2) 16 from dg_pair 2 c 16]
    rw [dg_and (fun j _ => by have a := hc (2 * j); have b := hc (2 * j + 1); show c (2 * j) + c (2 * j + 1) * 2 ^ 2 < 2 ^ 4; omega) (fun j _ => by decide)]
    exact dg_ext (fun j _ => and3 (by have a := hc (2 * j); omega))
  have hi : dg 2 c 32 / 2 ^ 2 &&& pm3 = dg 4 (fun j => c (2 * j + 1)) 16 := by
    rw [dg_div (by have := hc 0; omega) h32, hm, show dg 2 (fun j => c (j + 1)) 32 = dg 4 (fun j => c (2 * j + 1) + c (2 * j + 1 + 1) * 2 ^ 2) 16 from dg_pair 2 (fun j => c (j + 1)) 16]
    rw [dg_and (fun j _ => by have a := hc (2 * j + 1); have b := hc (2 * j + 1 + 1); show c (2 * j + 1) + c (2 * j + 1 + 1) * 2 ^ 2 < 2 ^ 4; omega) (fun j _ => by decide)]
    exact dg_ext (fun j _ => and3 (by have a := hc (2 * j + 1); omega))
  unfold pp2
  rw [lo, hi, dg_add]
theorem pop_3g {c : Nat → Nat} (hc : ∀ j, c j ≤ 4) (h16 : c 16 = 0) : pp3 (dg 4 c 16) = dg 8 (fun j => c (2 * j) + c (2 * j + 1)) 8 := by
  have hm : pmf = dg 8 (fun _ => 15) 8 := by decide +kernel
  unfold pp3
  rw [dg_div (by have := hc 0; omega) h16, dg_add, hm, show dg 4 (fun j => c j + c (j + 1)) 16 = dg 8 (fun j => (c (2 * j) + c (2 * j + 1)) + (c (2 * j + 1) + c (2 * j + 1 + 1)) * 2 ^ 4) 8 from dg_pair 4 (fun j => c j + c (j + 1)) 8]
  rw [dg_and (fun j _ => by have a := hc (2 * j); have b := hc (2 * j + 1); have d := hc (2 * j + 1 + 1); show (c (2 * j) + c (2 * j + 1)) + (c (2 * j + 1) + c (2 * j + 1 + 1)) * 2 ^ 4 < 2 ^ 8; omega) (fun j _ => by decide)]
  exact dg_ext (fun j _ => and15 (by have a := hc (2 * j); have b := hc (2 * j + 1); omega))
theorem pop_div8 {c : Nat → Nat} (hc : ∀ j, c j < 2 ^ 8) (h8 : ∀ j, 8 ≤ j → c j = 0) : ∀ i, dg 8 c 8 / 2 ^ (8 * i) = dg 8 (fun j => c (j + i)) 8
  | 0 => by simp
  | i + 1 => by
    have ih := pop_div8 hc h8 i
    rw [Nat.mul_succ, Nat.pow_add, ← Nat.div_div_eq_div_mul, ih, dg_div (d := fun j => c (j + i)) (hc _) (h8 _ (by omega))]
    exact dg_ext (fun j _ => by show c (j + 1 + i) = c (j + (i + 1)); rw [show j + 1 + i = j + (i + 1) by omega])
theorem pop_4g {c : Nat → Nat} (i : Nat) (hc : ∀ j, c j < 2 ^ 8) (h8 : ∀ j, 8 ≤ j → c j = 0) : pp4 (8 * i) (dg 8 c 8) = dg 8 (fun j => c j + c (j + i)) 8 := by
  unfold pp4
  rw [pop_div8 hc h8 i, dg_add]
end
def pg1 (f : Nat → Bool) (j : Nat) : Nat := bb f (2 * j) + bb f (2 * j + 1)
def pg2 (f : Nat → Bool) (j : Nat) : Nat := pg1 f (2 * j) + pg1 f (2 * j + 1)
def pg3 (f : Nat → Bool) (j : Nat) : Nat := pg2 f (2 * j) + pg2 f (2 * j + 1)
theorem bb_0 {f : Nat → Bool} (hf : ∀ j, 64 ≤ j → f j = false) {j : Nat} (h : 64 ≤ j) : bb f j = 0 := by unfold bb; rw [hf j h]; rfl
theorem pg1_le (f : Nat → Bool) (j : Nat) : pg1 f j ≤ 2 := by have a := bb_le f (2 * j); have b := bb_le f (2 * j + 1); unfold pg1; omega
theorem pg2_le (f : Nat → Bool) (j : Nat) : pg2 f j ≤ 4 := by have a := pg1_le f (2 * j); have b := pg1_le f (2 * j + 1); unfold pg2; omega
theorem pg3_le (f : Nat → Bool) (j : Nat) : pg3 f j ≤ 8 := by have a := pg2_le f (2 * j); have b := pg2_le f (2 * j + 1); unfold pg3; omega
theorem pg1_0 {f : Nat → Bool} (hf : ∀ j, 64 ≤ j → f j = false) {j : Nat} (h : 32 ≤ j) : pg1 f j = 0 := by unfold pg1; rw [bb_0 hf (by omega), bb_0 hf (by omega)]
theorem pg2_0 {f : Nat → Bool} (hf : ∀ j, 64 ≤ j → f j = false) {j : Nat} (h : 16 ≤ j) : pg2 f j = 0 := by unfold pg2; rw [pg1_0 hf (by omega), pg1_0 hf (by omega)]
theorem pg3_0 {f : Nat → Bool} (hf : ∀ j, 64 ≤ j → f j = false) {j : Nat} (h : 8 ≤ j) : pg3 f j = 0 := by unfold pg3; rw [pg2_0 hf (by omega), pg2_0 hf (by omega)]
theorem cnt_bb (f : Nat → Bool) : ∀ n, cnt f n = dg 0 (bb f) n
  | 0 => by rw [cnt_z]; rfl
  | n + 1 => by
    have ih := cnt_bb f n
    rw [cnt_s]
    show cnt f n + (if f n = true then 1 else 0) = dg 0 (bb f) n + bb f n * 2 ^ (0 * n)
    rw [ih, Nat.zero_mul]
    unfold bb
    omega
theorem cnt_64 (f : Nat → Bool) : cnt f 64 = dg 0 (pg3 f) 8 := by
  rw [cnt_bb]
  refine (dg_pair 0 (bb f) 32).trans ?_
  rw [dg_ext (w := 2 * 0) (e := pg1 f) (fun j _ => by show bb f (2 * j) + bb f (2 * j + 1) * 2 ^ 0 = pg1 f j; unfold pg1; omega)]
  refine (dg_pair 0 (pg1 f) 16).trans ?_
  rw [dg_ext (w := 2 * 0) (e := pg2 f) (fun j _ => by show pg1 f (2 * j) + pg1 f (2 * j + 1) * 2 ^ 0 = pg2 f j; unfold pg2; omega)]
  refine (dg_pair 0 (pg2 f) 8).trans ?_
  exact dg_ext (fun j _ => by show pg2 f (2 * j) + pg2 f (2 * j + 1) * 2 ^ 0 = pg3 f j; unfold pg3; omega)
theorem pop_a {f : Nat → Bool} (hf : ∀ j, 64 ≤ j → f j = false) : pp1 (bN f 64) = dg 2 (pg1 f) 32 := pop_1 hf
theorem pop_b {f : Nat → Bool} (hf : ∀ j, 64 ≤ j → f j = false) : pp2 (dg 2 (pg1 f) 32) = dg 4 (pg2 f) 16 := pop_2g (pg1_le f) (pg1_0 hf (Nat.le_refl 32))
theorem pop_c {f : Nat → Bool} (hf : ∀ j, 64 ≤ j → f j = false) : pp3 (dg 4 (pg2 f) 16) = dg 8 (pg3 f) 8 := pop_3g (pg2_le f) (pg2_0 hf (Nat.le_refl 16))
def pg4 (f : Nat → Bool) (j : Nat) : Nat := pg3 f j + pg3 f (j + 1)
def pg5 (f : Nat → Bool) (j : Nat) : Nat := pg4 f j + pg4 f (j + 2)
def pg6 (f : Nat → Bool) (j : Nat) : Nat := pg5 f j + pg5 f (j + 4)
theorem pg4_le (f : Nat → Bool) (j : Nat) : pg4 f j ≤ 16 := by have a := pg3_le f j; have b := pg3_le f (j + 1); unfold pg4; omega
theorem pg5_le (f : Nat → Bool) (j : Nat) : pg5 f j ≤ 32 := by have a := pg4_le f j; have b := pg4_le f (j + 2); unfold pg5; omega
theorem pg6_le (f : Nat → Bool) (j : Nat) : pg6 f j ≤ 64 := by have a := pg5_le f j; have b := pg5_le f (j + 4); unfold pg6; omega
theorem pg4_0 {f : Nat → Bool} (hf : ∀ j, 64 ≤ j → f j = false) {j : Nat} (h : 8 ≤ j) : pg4 f j = 0 := by unfold pg4; rw [pg3_0 hf (by omega), pg3_0 hf (by omega)]
theorem pg5_0 {f : Nat → Bool} (hf : ∀ j, 64 ≤ j → f j = false) {j : Nat} (h : 8 ≤ j) : pg5 f j = 0 := by unfold pg5; rw [pg4_0 hf (by omega), pg4_0 hf (by omega)]
theorem pop_d {f : Nat → Bool} (hf : ∀ j, 64 ≤ j → f j = false) : pp4 8 (dg 8 (pg3 f) 8) = dg 8 (pg4 f) 8 := pop_4g 1 (fun j => by have := pg3_le f j; omega) (fun _ h => pg3_0 hf h)
theorem pop_e {f : Nat → Bool} (hf : ∀ j, 64 ≤ j → f j = false) : pp4 16 (dg 8 (pg4 f) 8) = dg 8 (pg5 f) 8 := pop_4g 2 (fun j => by have := pg4_le f j; omega) (fun _ h => pg4_0 hf h)
theorem pop_f {f : Nat → Bool} (hf : ∀ j, 64 ≤ j → f j = false) : pp4 32 (dg 8 (pg5 f) 8) = dg 8 (pg6 f) 8 := pop_4g 4 (fun j => by have := pg5_le f j; omega) (fun _ h => pg5_0 hf h)
theorem pop_g {f : Nat → Bool} (hf : ∀ j, 64 ≤ j → f j = false) : dg 8 (pg6 f) 8 % 2 ^ 7 = cnt f 64 := by
  have h1 : dg 8 (pg6 f) 8 = pg6 f 0 + 2 ^ 8 * dg 8 (fun j => pg6 f (j + 1)) 7 := dg_shift 8 (pg6 f) 7
  have h2 := pg6_le f 0
  have h3 : cnt f 64 = pg6 f 0 := by
    rw [cnt_64]
    have e1 := pg3_0 hf (j := 8) (by omega)
    show (((((((0 + pg3 f 0 * 2 ^ (0 * 0)) + pg3 f 1 * 2 ^ (0 * 1)) + pg3 f 2 * 2 ^ (0 * 2)) + pg3 f 3 * 2 ^ (0 * 3)) + pg3 f 4 * 2 ^ (0 * 4)) + pg3 f 5 * 2 ^ (0 * 5)) + pg3 f 6 * 2 ^ (0 * 6)) + pg3 f 7 * 2 ^ (0 * 7) = ((pg3 f 0 + pg3 f (0 + 1)) + (pg3 f (0 + 2) + pg3 f (0 + 2 + 1))) + ((pg3 f (0 + 4) + pg3 f (0 + 4 + 1)) + (pg3 f (0 + 4 + 2) + pg3 f (0 + 4 + 2 + 1)))
    simp only [Nat.zero_mul, Nat.pow_zero, Nat.mul_one, Nat.zero_add, Nat.reduceAdd]
    omega
  rw [h1, h3]
  omega
