/-! bits of a long: the rows wb_ are the kit's own (laws/BITS.to-paste), pasted; below them a long as a set of bits. -/
theorem wb_tb (n : Nat) : (lN n).toBitVec = BitVec.ofNat 64 n := rfl
theorem wb_inj {a b : Int64} (h : a.toBitVec = b.toBitVec) : a = b := Int64.toBitVec_inj.mp h
theorem wb_tn {n : Nat} (h : n < 2 ^ 64) : (lN n).toBitVec.toNat = n := by rw [wb_tb, BitVec.toNat_ofNat, Nat.mod_eq_of_lt h]
theorem wb_of (x : Int64) : ∃ n, n < 2 ^ 64 ∧ x = lN n := ⟨x.toBitVec.toNat, x.toBitVec.isLt, wb_inj (by rw [wb_tb]; simp)⟩
theorem wb_of32 (x : Int32) : ∃ n, n < 2 ^ 32 ∧ x = nI n := ⟨x.toBitVec.toNat, x.toBitVec.isLt, Int32.toBitVec_inj.mp (by show _ = BitVec.ofNat 32 _; simp)⟩
theorem wb_c : ∀ k, k < 64 → ((nI k).toInt64 &&& 63) = lN k := by decide +kernel
theorem wb_cu : ∀ k, k < 64 → ((nI k).toInt64.toUInt64 &&& Int64.toUInt64 63) = UInt64.ofNat k := by decide +kernel
theorem wb_sm : ∀ k, k < 64 → (BitVec.ofNat 64 k).smod 64 = BitVec.ofNat 64 k := by decide +kernel
theorem wb_pw {a b : Nat} (h : a ≤ b) : 2 ^ b = 2 ^ a * 2 ^ (b - a) := by rw [← Nat.pow_add]; congr 1; omega
theorem wb_lt2 {a b : Nat} (h : a < b) : 2 ^ a < 2 ^ b := Nat.pow_lt_pow_right (by decide) h
theorem wb_mod (n : Nat) : lN n = lN (n % 2 ^ 64) := wb_inj (by rw [wb_tb, wb_tb]; apply BitVec.eq_of_toNat_eq; rw [BitVec.toNat_ofNat, BitVec.toNat_ofNat, Nat.mod_mod])
theorem wb_shr {n k : Nat} (hn : n < 2 ^ 64) (hk : k < 64) : ((lN n).toUInt64 >>> ((nI k).toInt64.toUInt64 &&& Int64.toUInt64 63)).toInt64 = lN (n / 2 ^ k) := by
  rw [wb_cu k hk]
  apply wb_inj
  apply BitVec.eq_of_toNat_eq
  show ((lN n).toUInt64 >>> UInt64.ofNat k).toNat = (BitVec.ofNat 64 _).toNat
  have h1 : (UInt64.ofNat k).toNat = k := by
    show (BitVec.ofNat 64 k).toNat = k
    rw [BitVec.toNat_ofNat, Nat.mod_eq_of_lt (by omega)]
  have h2 : (lN n).toUInt64.toNat = n := wb_tn hn
  rw [UInt64.toNat_shiftRight, h1, h2, Nat.mod_eq_of_lt hk, Nat.shiftRight_eq_div_pow, BitVec.toNat_ofNat, Nat.mod_eq_of_lt (Nat.lt_of_le_of_lt (Nat.div_le_self _ _) hn)]
theorem wb_shl (n : Nat) {k : Nat} (hk : k < 64) : lN n <<< ((nI k).toInt64 &&& 63) = lN (n * 2 ^ k) := by
  rw [wb_c k hk]
  apply wb_inj
  rw [Int64.toBitVec_shiftLeft, wb_tb, wb_tb, wb_tb, wb_sm k hk]
  apply BitVec.eq_of_toNat_eq
  rw [BitVec.shiftLeft_eq', BitVec.toNat_shiftLeft, BitVec.toNat_ofNat, BitVec.toNat_ofNat, BitVec.toNat_ofNat, Nat.mod_eq_of_lt (show k < 2 ^ 64 by omega), Nat.shiftLeft_eq, Nat.mul_mod, Nat.mod_mod, ← Nat.mul_mod]
theorem wb_and {a b : Nat} (ha : a < 2 ^ 64) (hb : b < 2 ^ 64) : lN a &&& lN b = lN (a &&& b) := by
  apply wb_inj
  rw [Int64.toBitVec_and, wb_tb, wb_tb, wb_tb]
  apply BitVec.eq_of_toNat_eq
  rw [BitVec.toNat_and, BitVec.toNat_ofNat, BitVec.toNat_ofNat, BitVec.toNat_ofNat, Nat.mod_eq_of_lt ha, Nat.mod_eq_of_lt hb, Nat.mod_eq_of_lt (Nat.and_lt_two_pow _ hb)]
theorem wb_or {a b : Nat} (ha : a < 2 ^ 64) (hb : b < 2 ^ 64) : lN a ||| lN b = lN (a ||| b) := by
  apply wb_inj
  rw [Int64.toBitVec_or, wb_tb, wb_tb, wb_tb]
  apply BitVec.eq_of_toNat_eq
  rw [BitVec.toNat_or, BitVec.toNat_ofNat, BitVec.toNat_ofNat, BitVec.toNat_ofNat, Nat.mod_eq_of_lt ha, Nat.mod_eq_of_lt hb, Nat.mod_eq_of_lt (Nat.or_lt_two_pow ha hb)]
theorem wb_mask {n k : Nat} (hn : n < 2 ^ 64) (hk : k < 64) : lN n &&& lN (2 ^ k - 1) = lN (n % 2 ^ k) := by
  rw [wb_and hn (by have := wb_lt2 hk; omega), Nat.and_two_pow_sub_one_eq_mod]
theorem wb_a1 {n : Nat} (hn : n < 2 ^ 64) : lN n &&& 1 = lN (n % 2) := wb_mask (k := 1) hn (by decide)
theorem wb_bit {n k : Nat} (hn : n < 2 ^ 64) (hk : k < 64) : ((lN n).toUInt64 >>> ((nI k).toInt64.toUInt64 &&& Int64.toUInt64 63)).toInt64 &&& 1 = lN (n / 2 ^ k % 2) := by
  rw [wb_shr hn hk, wb_a1 (Nat.lt_of_le_of_lt (Nat.div_le_self _ _) hn)]
theorem wb_xor {q k : Nat} (hk : k < 63) (h : 2 ^ k ≤ q) (h2 : q < 2 ^ (k + 1)) : lN q ^^^ lN (2 ^ k) = lN (q - 2 ^ k) := by
  obtain ⟨r, rfl⟩ : ∃ r, q = 2 ^ k + r := ⟨q - 2 ^ k, by omega⟩
  have hr : r < 2 ^ k := by rw [Nat.pow_succ] at h2; omega
  have hx : (2 ^ k + r) ^^^ 2 ^ k = r := by
    apply Nat.eq_of_testBit_eq
    intro i
    rw [Nat.testBit_xor, Nat.testBit_two_pow]
    rcases Nat.lt_trichotomy i k with h | h | h
    · rw [Nat.testBit_two_pow_add_gt h]
      simp [show ¬ k = i by omega]
    · subst h
      rw [Nat.testBit_two_pow_add_eq]
      simp
    · have a1 : 2 ^ (k + 1) ≤ 2 ^ i := Nat.pow_le_pow_right (by decide) h
      rw [Nat.testBit_lt_two_pow (show 2 ^ k + r < 2 ^ i by omega), Nat.testBit_lt_two_pow (show r < 2 ^ i by omega)]
      simp [show ¬ k = i by omega]
  have b1 := wb_lt2 (show k + 1 < 64 by omega)
  have b2 := wb_lt2 (show k < 64 by omega)
  apply wb_inj
  rw [Int64.toBitVec_xor, wb_tb, wb_tb, wb_tb]
  apply BitVec.eq_of_toNat_eq
  rw [BitVec.toNat_xor, BitVec.toNat_ofNat, BitVec.toNat_ofNat, BitVec.toNat_ofNat, Nat.mod_eq_of_lt (by omega : 2 ^ k + r < 2 ^ 64), Nat.mod_eq_of_lt b2, hx, Nat.add_sub_cancel_left, Nat.mod_eq_of_lt (by omega)]
/-! ints and booleans on the stack, by their mathematical values -/
def iI (z : Int) : Int32 := Int32.ofInt z
def lI (z : Int) : Int64 := Int64.ofInt z
def bI (x : Bool) : Int32 := if x = true then 1 else 0
theorem iI_n (k : Nat) : iI (k : Int) = nI k := by
  show Int32.ofInt (k : Int) = Int32.ofNat k
  apply Int32.toBitVec_inj.mp
  show BitVec.ofInt 32 (k : Int) = BitVec.ofNat 32 k
  exact BitVec.ofInt_natCast 32 k
theorem iI_self (x : Int32) : iI x.toInt = x := Int32.ofInt_toInt x
theorem iI_to {z : Int} (h1 : -2147483648 ≤ z) (h2 : z ≤ 2147483647) : (iI z).toInt = z := Int32.toInt_ofInt_of_le (by omega) (by omega)
theorem iI_add (a b : Int) : iI a + iI b = iI (a + b) := (Int32.ofInt_add a b).symm
theorem iI_sub (a b : Int) : iI a - iI b = iI (a - b) := (Int32.ofInt_sub a b).symm
theorem iI_mul (a b : Int) : iI a * iI b = iI (a * b) := (Int32.ofInt_mul a b).symm
def inI (z : Int) : Prop := -2147483648 ≤ z ∧ z ≤ 2147483647
theorem iI_lt {a b : Int} (ha : inI a) (hb : inI b) : iI a < iI b ↔ a < b := by
  rw [Int32.lt_iff_toInt_lt, iI_to ha.1 ha.2, iI_to hb.1 hb.2]
theorem iI_le {a b : Int} (ha : inI a) (hb : inI b) : iI a ≤ iI b ↔ a ≤ b := by
  rw [Int32.le_iff_toInt_le, iI_to ha.1 ha.2, iI_to hb.1 hb.2]
theorem iI_eq {a b : Int} (ha : inI a) (hb : inI b) : iI a = iI b ↔ a = b := by
  rw [← Int32.toInt_inj, iI_to ha.1 ha.2, iI_to hb.1 hb.2]
theorem iI_0 : iI 0 = 0 := by decide +kernel
theorem inI_0 : inI 0 := by unfold inI; omega
theorem inI_to (x : Int32) : inI x.toInt := by
  have h1 := Int32.toInt_lt x
  have h2 := Int32.le_toInt x
  exact ⟨by omega, by omega⟩
theorem bI_0 {x : Bool} : bI x = 0 ↔ x = false := by cases x <;> decide +kernel
theorem bI_inj {x y : Bool} : bI x = bI y ↔ x = y := by cases x <;> cases y <;> decide +kernel
theorem bI_i (x : Bool) : bI x = iI (if x = true then 1 else 0) := by cases x <;> decide +kernel
theorem bI_nar (x : Bool) : vp_nar .boolean (bI x) = bI x := by cases x <;> decide +kernel
theorem bI_t : iI 1 = bI true := by decide +kernel
theorem bI_f : iI 0 = bI false := by decide +kernel
/-! a set of bits as a number -/
def bN (f : Nat → Bool) : Nat → Nat
  | 0 => 0
  | n + 1 => bN f n + (if f n = true then 2 ^ n else 0)
theorem bN_lt (f : Nat → Bool) : ∀ n, bN f n < 2 ^ n
  | 0 => by show (0 : Nat) < 2 ^ 0; decide
  | n + 1 => by
    have h := bN_lt f n
    have e : 2 ^ (n + 1) = 2 ^ n + 2 ^ n := by rw [Nat.pow_succ]; omega
    show bN f n + (if f n = true then 2 ^ n else 0) < _
    split <;> omega
theorem bN_bit (f : Nat → Bool) (j : Nat) : ∀ n, (bN f n).testBit j = (decide (j < n) && f j)
  | 0 => by simp [bN]
  | n + 1 => by
    have ih := bN_bit f j n
    have h := bN_lt f n
    show (bN f n + (if f n = true then 2 ^ n else 0)).testBit j = _
    by_cases hf : f n = true
    · rw [if_pos hf]
      have e : bN f n + 2 ^ n = 2 ^ n * 1 + bN f n := by omega
      rw [e, Nat.testBit_two_pow_mul_add 1 h j]
      by_cases hj : j < n
      · rw [if_pos hj, ih]
        simp [hj, show j < n + 1 by omega]
      · rw [if_neg hj]
        by_cases h2 : j = n
        · subst h2
          simp [hf]
        · have h3 : (1 : Nat) < 2 ^ (j - n) := Nat.one_lt_two_pow (by omega)
          rw [Nat.testBit_lt_two_pow h3]
          simp [show ¬ j < n + 1 by omega]
    · rw [if_neg hf, Nat.add_zero, ih]
      by_cases h2 : j = n
      · subst h2
        simp [hf]
      · have e : decide (j < n) = decide (j < n + 1) := decide_eq_decide.mpr (by omega)
        rw [e]
/-- hidden from the unifier: only f is compared -/
def bLw (f : Nat → Bool) (n : Nat) : Int64 := if n = 0 then lN (bN f 64) else bLw f (n - 1)
termination_by n
def bL (f : Nat → Bool) : Int64 := bLw f 0
theorem bL_def (f : Nat → Bool) : bL f = lN (bN f 64) := by
  unfold bL
  rw [bLw]
  simp
theorem bL_of {N : Nat} {f : Nat → Bool} (hN : N < 2 ^ 64) (h : ∀ j, j < 64 → N.testBit j = f j) : lN N = bL f := by
  have e : N = bN f 64 := by
    apply Nat.eq_of_testBit_eq
    intro j
    rw [bN_bit]
    by_cases hj : j < 64
    · simp [hj, h j hj]
    · rw [Nat.testBit_lt_two_pow (Nat.lt_of_lt_of_le hN (Nat.pow_le_pow_right (by decide) (by omega)))]
      simp [hj]
  rw [bL_def, ← e]
theorem bL_ext {f g : Nat → Bool} (h : ∀ j, j < 64 → f j = g j) : bL f = bL g := by
  rw [bL_def f]
  exact bL_of (bN_lt f 64) (fun j hj => by rw [bN_bit]; simp [hj, h j hj])
theorem lN_inj {a b : Nat} (ha : a < 2 ^ 64) (hb : b < 2 ^ 64) (h : lN a = lN b) : a = b := by
  have := congrArg (fun z : Int64 => z.toBitVec.toNat) h
  simp only [wb_tn ha, wb_tn hb] at this
  exact this
theorem bL_inj {f g : Nat → Bool} (h : bL f = bL g) {j : Nat} (hj : j < 64) : f j = g j := by
  have e := lN_inj (bN_lt f 64) (bN_lt g 64) (by rw [← bL_def, ← bL_def]; exact h)
  have h1 := bN_bit f j 64
  have h2 := bN_bit g j 64
  rw [e, h2] at h1
  simpa [hj] using h1.symm
theorem bL_and (f g : Nat → Bool) : bL f &&& bL g = bL (fun j => f j && g j) := by
  rw [bL_def f, bL_def g, wb_and (bN_lt f 64) (bN_lt g 64)]
  exact bL_of (Nat.and_lt_two_pow _ (bN_lt g 64)) (fun j hj => by rw [Nat.testBit_and, bN_bit, bN_bit]; simp [hj])
theorem bL_or (f g : Nat → Bool) : bL f ||| bL g = bL (fun j => f j || g j) := by
  rw [bL_def f, bL_def g, wb_or (bN_lt f 64) (bN_lt g 64)]
  exact bL_of (Nat.or_lt_two_pow (bN_lt f 64) (bN_lt g 64)) (fun j hj => by rw [Nat.testBit_or, bN_bit, bN_bit]; simp [hj])
theorem lN_xor {a b : Nat} (ha : a < 2 ^ 64) (hb : b < 2 ^ 64) : lN a ^^^ lN b = lN (a ^^^ b) := by
  apply wb_inj
  rw [Int64.toBitVec_xor, wb_tb, wb_tb, wb_tb]
  apply BitVec.eq_of_toNat_eq
  rw [BitVec.toNat_xor, BitVec.toNat_ofNat, BitVec.toNat_ofNat, BitVec.toNat_ofNat, Nat.mod_eq_of_lt ha, Nat.mod_eq_of_lt hb, Nat.mod_eq_of_lt (Nat.xor_lt_two_pow ha hb)]
theorem bL_xor (f g : Nat → Bool) : bL f ^^^ bL g = bL (fun j => f j ^^ g j) := by
  rw [bL_def f, bL_def g, lN_xor (bN_lt f 64) (bN_lt g 64)]
  exact bL_of (Nat.xor_lt_two_pow (bN_lt f 64) (bN_lt g 64)) (fun j hj => by rw [Nat.testBit_xor, bN_bit, bN_bit]; simp [hj])
theorem bL_m1 : (-1 : Int64) = bL (fun _ => true) := by
  rw [bL_def]
  decide +kernel
theorem bL_0 : (0 : Int64) = bL (fun _ => false) := by
  rw [bL_def]
  decide +kernel
theorem bL_1 : (1 : Int64) = bL (fun j => decide (j = 0)) := by
  rw [bL_def]
  decide +kernel
theorem bL_shl (f : Nat → Bool) {k : Nat} (hk : k < 64) : bL f <<< ((iI (k : Int)).toInt64 &&& 63) = bL (fun j => decide (k ≤ j) && f (j - k)) := by
  rw [bL_def f, iI_n, wb_shl _ hk, wb_mod]
  exact bL_of (Nat.mod_lt _ (by decide)) (fun j hj => by
    rw [Nat.testBit_mod_two_pow, Nat.testBit_mul_two_pow, bN_bit]
    by_cases h : k ≤ j
    · simp [hj, h, show j - k < 64 by omega]
    · simp [h])
theorem bL_shr (f : Nat → Bool) {k : Nat} (hk : k < 64) : ((bL f).toUInt64 >>> ((iI (k : Int)).toInt64.toUInt64 &&& Int64.toUInt64 63)).toInt64 = bL (fun j => decide (j + k < 64) && f (j + k)) := by
  rw [bL_def f, iI_n, wb_shr (bN_lt f 64) hk]
  exact bL_of (Nat.lt_of_le_of_lt (Nat.div_le_self _ _) (bN_lt f 64)) (fun j hj => by rw [Nat.testBit_div_two_pow, bN_bit])
theorem bL_eq0 {f : Nat → Bool} : bL f = 0 ↔ ∀ j, j < 64 → f j = false := by
  rw [bL_0]
  exact ⟨fun h j hj => bL_inj h hj, fun h => bL_ext h⟩
theorem bN_one (k : Nat) : ∀ n, bN (fun j => decide (j = k)) n = if k < n then 2 ^ k else 0
  | 0 => by simp [bN]
  | n + 1 => by
    have ih := bN_one k n
    show bN (fun j => decide (j = k)) n + (if decide (n = k) = true then 2 ^ n else 0) = _
    rw [ih]
    by_cases h : n = k
    · subst h
      simp
    · by_cases h2 : k < n
      · simp [h, h2, show k < n + 1 by omega]
      · simp [h, h2, show ¬ k < n + 1 by omega]
theorem bL_all {k : Nat} (hk : k < 64) : bL (fun j => decide (j = k)) - 1 = bL (fun j => decide (j < k)) := by
  have h0 : (1 : Int64) = lN 1 := by decide +kernel
  have h1 : 0 < 2 ^ k := Nat.two_pow_pos k
  have h2 : 2 ^ k < 2 ^ 64 := wb_lt2 hk
  have e : bL (fun j => decide (j = k)) = lN (2 ^ k) := by rw [bL_def, bN_one, if_pos hk]
  rw [e, h0, lN_sub (show 1 ≤ 2 ^ k by omega)]
  exact bL_of (by omega) (fun j hj => by rw [Nat.testBit_two_pow_sub_one])
/-! how many bits -/
def cntr (f : Nat → Bool) : Nat → Nat
  | 0 => 0
  | n + 1 => cntr f n + (if f n = true then 1 else 0)
/-- hidden from the unifier -/
def cntw (f : Nat → Bool) (n m : Nat) : Nat := if m = 0 then cntr f n else cntw f n (m - 1)
termination_by m
def cnt (f : Nat → Bool) (n : Nat) : Nat := cntw f n 0
theorem cnt_def (f : Nat → Bool) (n : Nat) : cnt f n = cntr f n := by
  unfold cnt
  rw [cntw]
  simp
theorem cnt_z (f : Nat → Bool) : cnt f 0 = 0 := by rw [cnt_def]; rfl
theorem cnt_s (f : Nat → Bool) (n : Nat) : cnt f (n + 1) = cnt f n + (if f n = true then 1 else 0) := by rw [cnt_def, cnt_def]; rfl
theorem cnt_le (f : Nat → Bool) : ∀ n, cnt f n ≤ n
  | 0 => by rw [cnt_z]; exact Nat.le_refl 0
  | n + 1 => by
    have := cnt_le f n
    rw [cnt_s]
    split <;> omega
theorem cnt_ext {f g : Nat → Bool} : ∀ {n : Nat}, (∀ j, j < n → f j = g j) → cnt f n = cnt g n
  | 0, _ => by rw [cnt_z, cnt_z]
  | n + 1, h => by
    rw [cnt_s, cnt_s, cnt_ext (fun j hj => h j (Nat.lt_succ_of_lt hj)), h n (Nat.lt_succ_self n)]
theorem cnt_add (f : Nat → Bool) (a : Nat) : ∀ b, cnt f (a + b) = cnt f a + cnt (fun j => f (a + j)) b
  | 0 => by rw [cnt_z]; rfl
  | b + 1 => by
    have ih := cnt_add f a b
    rw [← Nat.add_assoc, cnt_s, cnt_s, ih]
    omega
theorem cnt_0 {f : Nat → Bool} {n : Nat} (h : ∀ j, j < n → f j = false) : cnt f n = 0 := by
  rw [cnt_ext (g := fun _ => false) h]
  clear h
  induction n with
  | zero => exact cnt_z _
  | succ n ih => rw [cnt_s, ih]; rfl
theorem cnt_ge {f : Nat → Bool} {n m : Nat} (h : ∀ j, n ≤ j → j < m → f j = false) (hn : n ≤ m) : cnt f m = cnt f n := by
  obtain ⟨d, rfl⟩ : ∃ d, m = n + d := ⟨m - n, by omega⟩
  rw [cnt_add, cnt_0 (fun j hj => h (n + j) (by omega) (by omega)), Nat.add_zero]
theorem cnt_pos {f : Nat → Bool} {n j : Nat} (hj : j < n) (h : f j = true) : 0 < cnt f n := by
  obtain ⟨d, rfl⟩ : ∃ d, n = (j + 1) + d := ⟨n - (j + 1), by omega⟩
  rw [cnt_add, cnt_s, if_pos h]
  omega
