/-! what is counted: notes and pipes -/
theorem su_mus {me : Nat → Bool} {s : Nat} (hs : s < 48) : ∀ k, k ≤ 15 → su (rof me 0) k s = mus me s k
  | 0, _ => rfl
  | k + 1, hk => by
    show (su (rof me 0) k s || rof me 0 (428 + k) s) = (mus me s k || me (20544 + 48 * (k + 1) + s))
    rw [su_mus hs k (by omega), rof_y (by omega) hs, rpl_b (by omega)]
    congr 2
    omega
theorem br_spk {kn me : Nat → Bool} {fo : Bool} {n s : Nat} {pe : Int} (hn : n ≤ 48) (hp : 0 ≤ pe ∧ pe ≤ 15) (hs : s < n) : spk fo n kn (rof me 0) pe s = msp kn me fo pe s := by
  unfold spk msp
  cases fo with
  | true => rw [if_pos rfl, decide_eq_true hs]; simp
  | false => rw [if_neg (by decide), su_mus (by omega) _ (by omega)]; simp
section RE
variable {dn : Nat → Bool} {fr tt sh : Nat → Int} {tb : Nat → Bool} {d : Int}
theorem shf_mdn {z w : Int} {j : Nat} {d : Int} : shf (gof dn d.toNat) z w j = mdn dn d (64 * w + j - 24 - z) := by
  unfold shf mdn gof
  by_cases h : 0 ≤ 64 * w + (j : Int) - 24 - z
  · rw [decide_eq_true h]
    by_cases h2 : 64 * w + (j : Int) - 24 - z < 61
    · rw [decide_eq_true h2, decide_eq_true (by omega)]; rfl
    · rw [decide_eq_false h2, decide_eq_false (by omega)]; rfl
  · rw [decide_eq_false h]; rfl
theorem rc_mre {w : Int} {j : Nat} : ∀ c, rc (gof dn) fr tt sh tb d w c j = mre dn fr tt sh tb d (64 * w + j - 24) c
  | 0 => by
    show shf (gof dn d.toNat) 0 w j = mdn dn d (64 * w + j - 24)
    rw [shf_mdn, Int.sub_zero]
  | c + 1 => by
    show (rc (gof dn) fr tt sh tb d w c j || (decide (tt c = d) && tb c && shf (gof dn (fr c).toNat) (sh c) w j)) = (mre dn fr tt sh tb d (64 * w + j - 24) c || (tb c && decide (tt c = d) && mdn dn (fr c) (64 * w + j - 24 - sh c)))
    rw [rc_mre c, shf_mdn, Bool.and_comm (tb c)]
theorem mdn_in {z : Int} (h : mdn dn d z = true) : 0 ≤ z ∧ z < 61 := by
  unfold mdn at h
  simp only [Bool.and_eq_true, decide_eq_true_eq] at h
  exact h.1
theorem mre_in {z : Int} (hcb : ∀ c, -24 ≤ sh c ∧ sh c ≤ 24) : ∀ c, mre dn fr tt sh tb d z c = true → -24 ≤ z ∧ z < 85
  | 0, h => by have := mdn_in (d := d) h; omega
  | c + 1, h => by
    have h : (mre dn fr tt sh tb d z c || (tb c && decide (tt c = d) && mdn dn (fr c) (z - sh c))) = true := h
    rcases Bool.or_eq_true_iff.mp h with h | h
    · exact mre_in hcb c h
    · have := mdn_in (Bool.and_eq_true_iff.mp h).2
      have := hcb c
      omega
end RE
/-- a window of counting that holds all that counts -/
theorem ct_win {F : Int → Bool} {lo L : Int} {n M : Nat} (h : ∀ z, F z = true → lo ≤ z ∧ z < lo + n) (h1 : L ≤ lo) (h2 : lo + n ≤ L + M) : cnt (fun i => F (L + i)) M = cnt (fun i => F (lo + i)) n := by
  obtain ⟨a, ha⟩ : ∃ a : Nat, lo = L + a := ⟨(lo - L).toNat, by omega⟩
  obtain ⟨b, hb⟩ : ∃ b : Nat, M = a + (n + b) := ⟨M - a - n, by omega⟩
  subst hb
  rw [cnt_add, cnt_add, cnt_0 (f := fun i : Nat => F (L + i)) (n := a) (fun j hj => by
    cases e : F (L + (j : Int)) with
    | false => rfl
    | true => have := h _ e; omega), Nat.zero_add]
  have e2 : cnt (fun j => (fun j : Nat => (fun i : Nat => F (L + i)) (a + j)) (n + j)) b = 0 := cnt_0 (fun j hj => by
    show F (L + ((a + (n + j) : Nat) : Int)) = false
    cases e : F (L + ((a + (n + j) : Nat) : Int)) with
    | false => rfl
    | true => have := h _ e; omega)
  rw [e2, Nat.add_zero]
  exact cnt_ext (fun j _ => by
    show F (L + ((a + j : Nat) : Int)) = F (lo + (j : Int))
    congr 1
    omega)
section RB
variable {dn : Nat → Bool} {fr tt sh : Nat → Int} {tb : Nat → Bool} {nc : Nat} {d : Int}
theorem rb_cnt (a b : Int) : rb (gof dn) fr tt sh tb nc d a b = cnt (fun i => (fun z : Int => mre dn fr tt sh tb d z nc && (decide (a ≤ z) && decide (z ≤ b))) (-24 + (i : Int))) 128 := by
  unfold rb spn
  rw [show (128 : Nat) = 64 + 64 from rfl, cnt_add]
  congr 1
  · refine cnt_ext (fun j _ => ?_)
    show (rc (gof dn) fr tt sh tb d 0 nc j && (decide (a ≤ 64 * 0 + (j : Int) - 24) && decide (64 * 0 + (j : Int) - 24 ≤ b))) = (mre dn fr tt sh tb d (-24 + (j : Int)) nc && (decide (a ≤ -24 + (j : Int)) && decide (-24 + (j : Int) ≤ b)))
    rw [rc_mre, show 64 * 0 + (j : Int) - 24 = -24 + (j : Int) by omega]
  · refine cnt_ext (fun j _ => ?_)
    show (rc (gof dn) fr tt sh tb d 1 nc j && (decide (a ≤ 64 * 1 + (j : Int) - 24) && decide (64 * 1 + (j : Int) - 24 ≤ b))) = (mre dn fr tt sh tb d (-24 + ((64 + j : Nat) : Int)) nc && (decide (a ≤ -24 + ((64 + j : Nat) : Int)) && decide (-24 + ((64 + j : Nat) : Int) ≤ b)))
    rw [rc_mre, show 64 * 1 + (j : Int) - 24 = -24 + ((64 + j : Nat) : Int) by omega]
theorem rb_win (hcb : ∀ c, -24 ≤ sh c ∧ sh c ≤ 24) {a b s : Int} (ha : 0 ≤ a + s) (hb : b + s ≤ 96) (hs : -24 ≤ s ∧ s ≤ 24) : rb (gof dn) fr tt sh tb nc d a b = cnt (fun q => (fun z : Int => mre dn fr tt sh tb d z nc && (decide (a ≤ z) && decide (z ≤ b))) (-s + (q : Int))) 97 := by
  rw [rb_cnt]
  have key : ∀ z : Int, (fun z : Int => mre dn fr tt sh tb d z nc && (decide (a ≤ z) && decide (z ≤ b))) z = true → (-24 ≤ z ∧ z < 85) ∧ a ≤ z ∧ z ≤ b := fun z h => by
    simp only [Bool.and_eq_true, decide_eq_true_eq] at h
    exact ⟨mre_in hcb nc h.1, h.2⟩
  rw [← ct_win (F := fun z : Int => mre dn fr tt sh tb d z nc && (decide (a ≤ z) && decide (z ≤ b))) (lo := -24) (L := -100) (n := 128) (M := 400) (fun z h => by have := key z h; omega) (by omega) (by omega)]
  rw [← ct_win (F := fun z : Int => mre dn fr tt sh tb d z nc && (decide (a ≤ z) && decide (z ≤ b))) (lo := -s) (L := -100) (n := 97) (M := 400) (fun z h => by have := key z h; omega) (by omega) (by omega)]
theorem br_nr (hcb : ∀ c, -24 ≤ sh c ∧ sh c ≤ 24) {d9 : Nat} : rb (gof dn) fr tt sh tb nc (d9 : Int) 0 96 = cnt (mrf dn fr tt sh tb nc d9) 97 := by
  rw [rb_win hcb (s := 0) (by omega) (by omega) (by omega)]
  refine cnt_ext (fun j hj => ?_)
  show (mre dn fr tt sh tb (d9 : Int) (-0 + (j : Int)) nc && (decide (0 ≤ -0 + (j : Int)) && decide (-0 + (j : Int) ≤ 96))) = mre dn fr tt sh tb (d9 : Int) (j : Int) nc
  rw [show -0 + (j : Int) = (j : Int) by omega, decide_eq_true (show (0 : Int) ≤ (j : Int) by omega), decide_eq_true (show (j : Int) ≤ 96 by omega)]
  simp
end RB
section WP
variable {dn kn me : Nat → Bool} {fr tt sh fd fs fl fh : Nat → Int} {tb : Nat → Bool} {nc n s : Nat} {fo : Bool} {pe : Int}
theorem br_wp (hcb : ∀ c, -24 ≤ sh c ∧ sh c ≤ 24) (hsb : ∀ s, -24 ≤ fs s ∧ fs s ≤ 24 ∧ 0 ≤ fl s ∧ fh s ≤ 96) (h : msp kn me fo pe s = true) : wpi (gof dn) fr tt sh tb nc fd fs fl fh s = cnt (fun q => mio kn me fo pe fd fs fl fh dn fr tt sh tb nc s (q : Int)) 97 := by
  have hs := hsb s
  unfold wpi
  rw [rb_win hcb (s := fs s) (by omega) (by omega) (by omega)]
  refine cnt_ext (fun j hj => ?_)
  unfold mio
  rw [h]
  show (mre dn fr tt sh tb (fd s) (-fs s + (j : Int)) nc && (decide (fl s - fs s ≤ -fs s + (j : Int)) && decide (-fs s + (j : Int) ≤ fh s - fs s))) = (true && decide (fl s ≤ (j : Int)) && decide ((j : Int) ≤ fh s) && mre dn fr tt sh tb (fd s) ((j : Int) - fs s) nc)
  rw [show -fs s + (j : Int) = (j : Int) - fs s by omega, show decide (fl s - fs s ≤ (j : Int) - fs s) = decide (fl s ≤ (j : Int)) from decide_eq_decide.mpr ⟨fun _ => by omega, fun _ => by omega⟩, show decide ((j : Int) - fs s ≤ fh s - fs s) = decide ((j : Int) ≤ fh s) from decide_eq_decide.mpr ⟨fun _ => by omega, fun _ => by omega⟩]
  rw [Bool.true_and, Bool.and_comm]
theorem br_wp0 (h : msp kn me fo pe s = false) : cnt (fun q => mio kn me fo pe fd fs fl fh dn fr tt sh tb nc s (q : Int)) 97 = 0 := cnt_0 (fun j _ => by unfold mio; rw [h]; rfl)
theorem br_abt {ft : Nat → Int} {b : Int} (hn : n ≤ 48) (hp : 0 ≤ pe ∧ pe ≤ 15) (hcb : ∀ c, -24 ≤ sh c ∧ sh c ≤ 24) (hsb : ∀ s, -24 ≤ fs s ∧ fs s ≤ 24 ∧ 0 ≤ fl s ∧ fh s ≤ 96) (hs : s < n) :
    abt b kn (spk fo n kn (rof me 0) pe) ft (wpi (gof dn) fr tt sh tb nc fd fs fl fh s) s = mab b kn (msp kn me fo pe s) ft (cnt (fun q => mio kn me fo pe fd fs fl fh dn fr tt sh tb nc s (q : Int)) 97) s := by
  unfold abt mab
  rw [br_spk hn hp hs]
  cases h : msp kn me fo pe s with
  | true => rw [br_wp hcb hsb h, if_pos (rfl : true = true), if_pos (rfl : true = true)]
  | false => rw [br_wp0 h]; rfl
theorem br_opi (hn : n ≤ 48) (hp : 0 ≤ pe ∧ pe ≤ 15) (hcb : ∀ c, -24 ≤ sh c ∧ sh c ≤ 24) (hsb : ∀ s, -24 ≤ fs s ∧ fs s ≤ 24 ∧ 0 ≤ fl s ∧ fh s ≤ 96) {ft : Nat → Int} : ∀ k, k ≤ n →
    opi (spk fo n kn (rof me 0) pe) (wpi (gof dn) fr tt sh tb nc fd fs fl fh) k = smg 8 kn ft (fun s => cnt (fun q => mio kn me fo pe fd fs fl fh dn fr tt sh tb nc s (q : Int)) 97) k
  | 0, _ => rfl
  | k + 1, hk => by
    rw [smg_3 rfl, ← br_opi hn hp hcb hsb k (by omega)]
    cases h : msp kn me fo pe k with
    | true => rw [opi_t (by rw [br_spk hn hp (by omega)]; exact h), br_wp hcb hsb h]
    | false => rw [opi_f (by rw [br_spk hn hp (by omega)]; exact h), br_wp0 h]; rfl
theorem br_pipe {b : Int} (hn : n ≤ 48) (hp : 0 ≤ pe ∧ pe ≤ 15) (hcb : ∀ c, -24 ≤ sh c ∧ sh c ≤ 24) (hs : s < n) :
    (decide (fl s ≤ b) && decide (b ≤ fh s) && spk fo n kn (rof me 0) pe s && decide (0 < rb (gof dn) fr tt sh tb nc (fd s) (b - fs s) (b - fs s))) = mio kn me fo pe fd fs fl fh dn fr tt sh tb nc s b := by
  have e : decide (0 < rb (gof dn) fr tt sh tb nc (fd s) (b - fs s) (b - fs s)) = mre dn fr tt sh tb (fd s) (b - fs s) nc := by
    rw [rb_cnt]
    cases h : mre dn fr tt sh tb (fd s) (b - fs s) nc with
    | true =>
      have hi := mre_in hcb nc h
      refine decide_eq_true (cnt_pos (j := (b - fs s + 24).toNat) (by omega) ?_)
      show (mre dn fr tt sh tb (fd s) (-24 + (((b - fs s + 24).toNat : Nat) : Int)) nc && (decide (b - fs s ≤ -24 + (((b - fs s + 24).toNat : Nat) : Int)) && decide (-24 + (((b - fs s + 24).toNat : Nat) : Int) ≤ b - fs s))) = true
      rw [show -24 + (((b - fs s + 24).toNat : Nat) : Int) = b - fs s by omega, h]
      simp
    | false =>
      refine decide_eq_false (fun h0 => ?_)
      rw [cnt_0 (fun j _ => ?_)] at h0
      · omega
      · show (mre dn fr tt sh tb (fd s) (-24 + (j : Int)) nc && (decide (b - fs s ≤ -24 + (j : Int)) && decide (-24 + (j : Int) ≤ b - fs s))) = false
        by_cases e : -24 + (j : Int) = b - fs s
        · rw [e, h]; rfl
        · by_cases e2 : b - fs s ≤ -24 + (j : Int)
          · rw [decide_eq_false (show ¬ -24 + (j : Int) ≤ b - fs s by omega)]; simp
          · rw [decide_eq_false e2]; simp
  rw [e, br_spk hn hp hs]
  unfold mio
  cases decide (fl s ≤ b) <;> cases decide (b ≤ fh s) <;> cases msp kn me fo pe s <;> simp
end WP
theorem br_kd {dn : Nat → Bool} : kd (gof dn) = cnt dn 305 := by
  have e : ∀ d, cnt (gof dn d) 64 = cnt (fun j => dn (61 * d + j)) 61 := fun d => by
    rw [cnt_ge (n := 61) (fun j h _ => gof_n (by omega)) (by decide)]
    exact cnt_ext (fun j hj => gof_y hj)
  unfold kd
  rw [e, e, e, e, e, show (305 : Nat) = 61 + (61 + (61 + (61 + 61))) from rfl, cnt_add dn 61, cnt_add _ 61, cnt_add _ 61, cnt_add _ 61]
  have z : ∀ {f g : Nat → Bool}, (∀ j, f j = g j) → cnt f 61 = cnt g 61 := fun h => cnt_ext (fun j _ => h j)
  rw [z (f := fun j => dn (61 * 0 + j)) (g := dn) (fun j => by rw [Nat.mul_zero, Nat.zero_add])]
  rw [z (f := fun j => dn (61 * 1 + j)) (g := fun j => dn (61 + j)) (fun j => by rw [Nat.mul_one])]
  rw [z (f := fun j => dn (61 * 2 + j)) (g := fun j => (fun j => dn (61 + j)) (61 + j)) (fun j => by show dn _ = dn _; congr 1; omega)]
  rw [z (f := fun j => dn (61 * 3 + j)) (g := fun j => (fun j => (fun j => dn (61 + j)) (61 + j)) (61 + j)) (fun j => by show dn _ = dn _; congr 1; omega)]
  rw [z (f := fun j => dn (61 * 4 + j)) (g := fun j => (fun j => (fun j => (fun j => dn (61 + j)) (61 + j)) (61 + j)) (61 + j)) (fun j => by show dn _ = dn _; congr 1; omega)]
  dsimp only
  omega
theorem smg_0 {z : Int} {kn : Nat → Bool} {ft : Nat → Int} {w : Nat → Nat} (h3 : ¬ z = 3) (h4 : ¬ z = 4) (h8 : ¬ z = 8) : ∀ k, smg z kn ft w k = 0
  | 0 => rfl
  | k + 1 => by rw [smg_4 (Or.inl h3) (Or.inl h4) h8, smg_0 h3 h4 h8 k]
theorem smg_k {kn : Nat → Bool} {ft : Nat → Int} {w : Nat → Nat} : ∀ k, smg 3 kn ft w k = cnt kn k
  | 0 => (cnt_z kn).symm
  | k + 1 => by
    cases h : kn k with
    | true => rw [smg_1 rfl h, cnt_t h, smg_k k]
    | false => rw [smg_4 (Or.inr h) (Or.inl (by decide)) (by decide), cnt_f h, smg_k k]
theorem smg_p {kn : Nat → Bool} {ft : Nat → Int} {w : Nat → Nat} : ∀ k, smg 4 kn ft w k = cnt (fun s => decide (0 < ft s)) k
  | 0 => (cnt_z _).symm
  | k + 1 => by
    by_cases h : 0 < ft k
    · rw [smg_2 rfl h, cnt_t (decide_eq_true h), smg_p k]
    · rw [smg_4 (Or.inl (by decide)) (Or.inr h) (by decide), cnt_f (decide_eq_false h), smg_p k]
theorem smd_0 {z : Int} {dn : Nat → Bool} {k : Nat} (h : ¬ z = 2) : cnt (smd z dn) k = 0 := cnt_0 (f := smd z dn) (fun j _ => and_f1 (decide_eq_false h))
theorem br_nrs {dn : Nat → Bool} {fr tt sh : Nat → Int} {tb : Nat → Bool} {nc : Nat} (hcb : ∀ c, -24 ≤ sh c ∧ sh c ≤ 24) : nr (gof dn) fr tt sh tb nc = smh 9 (mrf dn fr tt sh tb nc) 5 := by
  unfold nr
  rw [smh_9 rfl, smh_9 rfl, smh_9 rfl, smh_9 rfl, smh_9 rfl]
  have e := fun d9 : Nat => br_nr (dn := dn) (fr := fr) (tt := tt) (tb := tb) (nc := nc) hcb (d9 := d9)
  have e0 := e 0
  have e1 := e 1
  have e2 := e 2
  have e3 := e 3
  have e4 := e 4
  have e5 : smh 9 (mrf dn fr tt sh tb nc) 0 = 0 := rfl
  rw [e5, ← e0, ← e1, ← e2, ← e3, ← e4, Nat.zero_add]
  rfl
section CT
variable {dn kn me : Nat → Bool} {fr tt sh fd fs fl fh ft ve : Nat → Int} {tb : Nat → Bool} {nc n : Nat} {fo : Bool} {pe fm cu nf z : Int}
theorem br_count (h0 : 0 ≤ z ∧ z ≤ 10) (hn : n ≤ 48) (hp : 0 ≤ pe ∧ pe ≤ 15) (hcb : ∀ c, -24 ≤ sh c ∧ sh c ≤ 24) (hsb : ∀ s, -24 ≤ fs s ∧ fs s ≤ 24 ∧ 0 ≤ fl s ∧ fh s ≤ 96) (hkn : ∀ j, n ≤ j → kn j = false) (hnf : nf = -1 ∨ nf = 0 ∨ nf = 1) (h8 : 0 ≤ nf → ve (9 * nf.toNat + 8) = ve (9 * nf.toNat)) :
    (if z = 0 then (n : Int) else if z = 1 then (nc : Int) else if z = 2 then ((kd (gof dn) : Nat) : Int) else if z = 3 then ((cnt kn 64 : Nat) : Int) else if z = 4 then ((cnt (fun s => decide (0 < ft s)) n : Nat) : Int) else if z = 5 then fm else if z = 6 then cu else if z = 7 then (if nf = -1 then 0 else if nf = 0 then vof ve 0 8 else vof ve 9 8) else if z = 8 then ((opi (spk fo n kn (rof me 0) pe) (wpi (gof dn) fr tt sh tb nc fd fs fl fh) n : Nat) : Int) else if z = 9 then ((nr (gof dn) fr tt sh tb nc : Nat) : Int) else nf)
    = (if z = 0 then (n : Int) else if z = 1 then (nc : Int) else if z = 5 then fm else if z = 6 then cu else if z = 7 then (if nf < 0 then 0 else ve (9 * nf.toNat)) else if z = 10 then nf else ((cnt (smd z dn) 305 + smg z kn ft (fun s => cnt (fun q => mio kn me fo pe fd fs fl fh dn fr tt sh tb nc s (q : Int)) 97) n + smh z (mrf dn fr tt sh tb nc) 5 : Nat) : Int)) := by
  rw [br_ver hnf h8]
  have hc : z = 0 ∨ z = 1 ∨ z = 2 ∨ z = 3 ∨ z = 4 ∨ z = 5 ∨ z = 6 ∨ z = 7 ∨ z = 8 ∨ z = 9 ∨ z = 10 := by omega
  rcases hc with rfl | rfl | rfl | rfl | rfl | rfl | rfl | rfl | rfl | rfl | rfl
  · rfl
  · rfl
  · rw [smg_0 (by decide) (by decide) (by decide), smh_n (by decide), br_kd]
    show ((cnt dn 305 : Nat) : Int) = ((cnt (smd 2 dn) 305 + 0 + 0 : Nat) : Int)
    rw [cnt_ext (f := smd 2 dn) (g := dn) (fun j _ => by unfold smd; simp)]
    omega
  · rw [smd_0 (by decide), smg_k, smh_n (by decide), cnt_ge (n := n) (m := 64) (fun j h _ => hkn j h) (by omega)]
    show ((cnt kn n : Nat) : Int) = ((0 + cnt kn n + 0 : Nat) : Int)
    omega
  · rw [smd_0 (by decide), smg_p, smh_n (by decide)]
    show ((cnt (fun s => decide (0 < ft s)) n : Nat) : Int) = ((0 + cnt (fun s => decide (0 < ft s)) n + 0 : Nat) : Int)
    omega
  · rfl
  · rfl
  · rfl
  · rw [smd_0 (by decide), smh_n (by decide), ← br_opi hn hp hcb hsb n (Nat.le_refl n)]
    show ((opi (spk fo n kn (rof me 0) pe) (wpi (gof dn) fr tt sh tb nc fd fs fl fh) n : Nat) : Int) = ((0 + opi (spk fo n kn (rof me 0) pe) (wpi (gof dn) fr tt sh tb nc fd fs fl fh) n + 0 : Nat) : Int)
    omega
  · rw [smd_0 (by decide), smg_0 (by decide) (by decide) (by decide), br_nrs hcb]
    show ((smh 9 (mrf dn fr tt sh tb nc) 5 : Nat) : Int) = ((0 + 0 + smh 9 (mrf dn fr tt sh tb nc) 5 : Nat) : Int)
    omega
  · rfl
end CT
