/-! sets of bits under the class's small methods -/
theorem with_t {f : Nat → Bool} {k : Nat} {x : Bool} (hx : x = true) : bL (fun j => f j || (fun j => decide (k ≤ j) && (fun j => decide (j = 0)) (j - k)) j) = bL (va_up f k x) := by
  refine bL_ext (fun j hj => ?_)
  subst hx
  unfold va_up
  by_cases h : j = k
  · subst h
    simp
  · simp only [h, if_false]
    by_cases h2 : k ≤ j
    · simp [show ¬ j - k = 0 by omega]
    · simp [h2]
theorem with_f {f : Nat → Bool} {k : Nat} {x : Bool} (hx : x = false) : bL (fun j => f j && (fun j => (fun j => decide (k ≤ j) && (fun j => decide (j = 0)) (j - k)) j ^^ (fun _ => true) j) j) = bL (va_up f k x) := by
  refine bL_ext (fun j hj => ?_)
  subst hx
  unfold va_up
  by_cases h : j = k
  · subst h
    simp
  · simp only [h, if_false]
    by_cases h2 : k ≤ j
    · simp [show ¬ j - k = 0 by omega]
    · simp [h2]
/-- keys moved by a shift, seen in a word of 64 notes that begins at -24 -/
def shf (f : Nat → Bool) (z w : Int) (j : Nat) : Bool := decide (0 ≤ 64 * w + j - 24 - z) && f (64 * w + j - 24 - z).toNat
/-- the notes from a to b in such a word -/
def spn (a b w : Int) (j : Nat) : Bool := decide (a ≤ 64 * w + j - 24) && decide (64 * w + j - 24 ≤ b)
theorem shf_0 {f : Nat → Bool} {z w : Int} (hz : -24 ≤ z) (hw : w = 0) {n : Nat} (hn : z + 24 = (n : Int)) : bL (fun j => decide (n ≤ j) && f (j - n)) = bL (shf f z w) := by
  refine bL_ext (fun j hj => ?_)
  unfold shf
  by_cases h : n ≤ j
  · have e : (64 * w + (j : Int) - 24 - z).toNat = j - n := by omega
    rw [e, decide_eq_true h, decide_eq_true (show (0 : Int) ≤ 64 * w + j - 24 - z by omega)]
  · rw [decide_eq_false h, decide_eq_false (show ¬ (0 : Int) ≤ 64 * w + j - 24 - z by omega)]
    rfl
theorem shf_1z {f : Nat → Bool} {z w : Int} (hf : ∀ j, 61 ≤ j → f j = false) (hw : w = 1) (hz : z + 24 = 0) : bL (fun _ => false) = bL (shf f z w) := by
  refine bL_ext (fun j hj => ?_)
  unfold shf
  rw [hf _ (by omega)]
  simp
theorem shf_1 {f : Nat → Bool} {z w : Int} (hf : ∀ j, 61 ≤ j → f j = false) (hw : w = 1) {n : Nat} (hn : 64 - (z + 24) = (n : Int)) (h1 : -24 ≤ z) (h2 : z ≤ 24) : bL (fun j => decide (j + n < 64) && f (j + n)) = bL (shf f z w) := by
  refine bL_ext (fun j hj => ?_)
  unfold shf
  have e : (64 * w + (j : Int) - 24 - z).toNat = j + n := by omega
  rw [e, decide_eq_true (show (0 : Int) ≤ 64 * w + j - 24 - z by omega)]
  by_cases h : j + n < 64
  · rw [decide_eq_true h]
  · rw [hf (j + n) (by omega)]
    simp
theorem spn_0 {a b w : Int} (h : ¬ max (a + (24 - w * 64)) 0 ≤ min (b + (24 - w * 64)) 63) : bL (fun _ => false) = bL (spn a b w) := by
  refine bL_ext (fun j hj => ?_)
  unfold spn
  by_cases h1 : a ≤ 64 * w + (j : Int) - 24
  · rw [decide_eq_false (show ¬ 64 * w + (j : Int) - 24 ≤ b by omega)]
    simp
  · rw [decide_eq_false h1]
    rfl
theorem spn_1 {a b w : Int} (h : max (a + (24 - w * 64)) 0 ≤ min (b + (24 - w * 64)) 63) {n k : Nat} (hn : max (a + (24 - w * 64)) 0 = (n : Int)) (hk : 63 - min (b + (24 - w * 64)) 63 = (k : Int)) :
    bL (fun j => (fun j => decide (n ≤ j) && (fun _ => true) (j - n)) j && (fun j => decide (j + k < 64) && (fun _ => true) (j + k)) j) = bL (spn a b w) := by
  refine bL_ext (fun j hj => ?_)
  unfold spn
  simp only [Bool.and_true]
  rw [show decide (n ≤ j) = decide (a ≤ 64 * w + (j : Int) - 24) from decide_eq_decide.mpr (by omega), show decide (j + k < 64) = decide (64 * w + (j : Int) - 24 ≤ b) from decide_eq_decide.mpr (by omega)]
/-- Long.bitCount, step by step -/
theorem bc_f (f : Nat → Bool) : bL f = bL (fun j => decide (j < 64) && f j) := bL_ext (fun j hj => by simp [hj])
theorem dg8_lt {f : Nat → Nat} (h : ∀ j, f j < 2 ^ 8) : dg 8 f 8 < 2 ^ 64 := dg_lt (n := 8) (fun j _ => h j)
theorem sh_c (k : Nat) (hk : k < 64) : ((iI (k : Int)).toInt64.toUInt64 &&& Int64.toUInt64 63) = UInt64.ofNat k := by rw [iI_n]; exact wb_cu k hk
theorem bc_shr {n : Nat} (hn : n < 2 ^ 64) {k : Nat} (hk : k < 64) : ((lN n).toUInt64 >>> ((iI (k : Int)).toInt64.toUInt64 &&& Int64.toUInt64 63)).toInt64 = lN (n / 2 ^ k) := by rw [iI_n]; exact wb_shr hn hk
theorem bc_m5 : (6148914691236517205 : Int64) = lN pm5 := by decide +kernel
theorem bc_m3 : (3689348814741910323 : Int64) = lN pm3 := by decide +kernel
theorem bc_mf : (1085102592571150095 : Int64) = lN pmf := by decide +kernel
theorem bc_1 {f : Nat → Bool} (hf : ∀ j, 64 ≤ j → f j = false) : (bL f) - ((((bL f).toUInt64 >>> ((iI (1)).toInt64.toUInt64 &&& Int64.toUInt64 63)).toInt64) &&& (6148914691236517205)) = lN (dg 2 (pg1 f) 32) := by
  have h1 : ((bL f).toUInt64 >>> ((iI (1)).toInt64.toUInt64 &&& Int64.toUInt64 63)).toInt64 = lN (bN f 64 / 2 ^ 1) := by
    rw [bL_def]
    exact bc_shr (bN_lt f 64) (k := 1) (by decide)
  have h2 : bN f 64 / 2 ^ 1 < 2 ^ 64 := Nat.lt_of_le_of_lt (Nat.div_le_self _ _) (bN_lt f 64)
  rw [h1, bc_m5, wb_and h2 (by decide), bL_def]
  rw [lN_sub (pop_1le hf), ← pop_a hf]
  rfl
theorem bc_2 {f : Nat → Bool} (hf : ∀ j, 64 ≤ j → f j = false) : ((lN (dg 2 (pg1 f) 32)) &&& (3689348814741910323)) + ((((lN (dg 2 (pg1 f) 32)).toUInt64 >>> ((iI (2)).toInt64.toUInt64 &&& Int64.toUInt64 63)).toInt64) &&& (3689348814741910323)) = lN (dg 4 (pg2 f) 16) := by
  have hb : dg 2 (pg1 f) 32 < 2 ^ 64 := dg_lt (n := 32) (fun j _ => by have := pg1_le f j; omega)
  have h1 : ((lN (dg 2 (pg1 f) 32)).toUInt64 >>> ((iI (2)).toInt64.toUInt64 &&& Int64.toUInt64 63)).toInt64 = lN (dg 2 (pg1 f) 32 / 2 ^ 2) := bc_shr hb (k := 2) (by decide)
  rw [h1, bc_m3, wb_and hb (by decide), wb_and (Nat.lt_of_le_of_lt (Nat.div_le_self _ _) hb) (by decide), lN_add, ← pop_b hf]
  rfl
theorem bc_3 {f : Nat → Bool} (hf : ∀ j, 64 ≤ j → f j = false) : ((lN (dg 4 (pg2 f) 16)) + (((lN (dg 4 (pg2 f) 16)).toUInt64 >>> ((iI (4)).toInt64.toUInt64 &&& Int64.toUInt64 63)).toInt64)) &&& (1085102592571150095) = lN (dg 8 (pg3 f) 8) := by
  have hb : dg 4 (pg2 f) 16 < 2 ^ 64 := dg_lt (n := 16) (fun j _ => by have := pg2_le f j; omega)
  have h1 : ((lN (dg 4 (pg2 f) 16)).toUInt64 >>> ((iI (4)).toInt64.toUInt64 &&& Int64.toUInt64 63)).toInt64 = lN (dg 4 (pg2 f) 16 / 2 ^ 4) := bc_shr hb (k := 4) (by decide)
  have h2 : dg 4 (pg2 f) 16 + dg 4 (pg2 f) 16 / 2 ^ 4 < 2 ^ 64 := by
    rw [dg_div (by have := pg2_le f 0; omega) (pg2_0 hf (Nat.le_refl 16)), dg_add]
    exact dg_lt (n := 16) (fun j _ => by have a := pg2_le f j; have b := pg2_le f (j + 1); show pg2 f j + pg2 f (j + 1) < 2 ^ 4; omega)
  rw [h1, bc_mf, lN_add, wb_and h2 (by decide), ← pop_c hf]
  rfl
theorem bc_4 {f : Nat → Bool} (hf : ∀ j, 64 ≤ j → f j = false) : (lN (dg 8 (pg3 f) 8)) + (((lN (dg 8 (pg3 f) 8)).toUInt64 >>> ((iI (8)).toInt64.toUInt64 &&& Int64.toUInt64 63)).toInt64) = lN (dg 8 (pg4 f) 8) := by
  have hb : dg 8 (pg3 f) 8 < 2 ^ 64 := dg8_lt (fun j => by have := pg3_le f j; omega)
  have h1 : ((lN (dg 8 (pg3 f) 8)).toUInt64 >>> ((iI (8)).toInt64.toUInt64 &&& Int64.toUInt64 63)).toInt64 = lN (dg 8 (pg3 f) 8 / 2 ^ 8) := bc_shr hb (k := 8) (by decide)
  rw [h1, lN_add, ← pop_d hf]
  rfl
theorem bc_5 {f : Nat → Bool} (hf : ∀ j, 64 ≤ j → f j = false) : (lN (dg 8 (pg4 f) 8)) + (((lN (dg 8 (pg4 f) 8)).toUInt64 >>> ((iI (16)).toInt64.toUInt64 &&& Int64.toUInt64 63)).toInt64) = lN (dg 8 (pg5 f) 8) := by
  have hb : dg 8 (pg4 f) 8 < 2 ^ 64 := dg8_lt (fun j => by have := pg4_le f j; omega)
  have h1 : ((lN (dg 8 (pg4 f) 8)).toUInt64 >>> ((iI (16)).toInt64.toUInt64 &&& Int64.toUInt64 63)).toInt64 = lN (dg 8 (pg4 f) 8 / 2 ^ 16) := bc_shr hb (k := 16) (by decide)
  rw [h1, lN_add, ← pop_e hf]
  rfl
theorem bc_6 {f : Nat → Bool} (hf : ∀ j, 64 ≤ j → f j = false) : (lN (dg 8 (pg5 f) 8)) + (((lN (dg 8 (pg5 f) 8)).toUInt64 >>> ((iI (32)).toInt64.toUInt64 &&& Int64.toUInt64 63)).toInt64) = lN (dg 8 (pg6 f) 8) := by
  have hb : dg 8 (pg5 f) 8 < 2 ^ 64 := dg8_lt (fun j => by have := pg5_le f j; omega)
  have h1 : ((lN (dg 8 (pg5 f) 8)).toUInt64 >>> ((iI (32)).toInt64.toUInt64 &&& Int64.toUInt64 63)).toInt64 = lN (dg 8 (pg5 f) 8 / 2 ^ 32) := bc_shr hb (k := 32) (by decide)
  rw [h1, lN_add, ← pop_f hf]
  rfl
theorem nI_tn (n : Nat) : (nI n).toBitVec.toNat = n % 2 ^ 32 := BitVec.toNat_ofNat n 32
theorem nI_127 (n : Nat) : nI n &&& (iI (127)) = nI (n % 2 ^ 7) := by
  rw [pk_and (nI n) (m := iI 127) 7 (by decide +kernel), nI_tn, Nat.mod_mod_of_dvd _ (Nat.pow_dvd_pow 2 (by decide : 7 ≤ 32))]
theorem bc_7 {f : Nat → Bool} (hf : ∀ j, 64 ≤ j → f j = false) : ((lN (dg 8 (pg6 f) 8)).toInt32) &&& (iI (127)) = iI ((cnt f 64 : Nat) : Int) := by
  rw [lN_i, nI_127, iI_n, pop_g hf]
