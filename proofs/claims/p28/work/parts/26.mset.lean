/-! ===== what a set keeps to ===== -/
theorem ps_s (s n : Nat) : popK s n + (s / 2 ^ n &&& 1) = popK s (n + 1) := by
  show _ = popK s n + s / 2 ^ n % 2
  rw [Nat.and_one_is_mod]
/-- pairs of all intervals below n -/
def prS (s : Nat) : Nat → Nat
  | 0 => 0
  | n + 1 => prS s n + if n = 0 then 0 else prO s n 12
theorem prS_s {s n : Nat} (h : 1 ≤ n) : prS s n + prO s n 12 = prS s (n + 1) := by
  show _ = prS s n + if n = 0 then 0 else prO s n 12
  rw [if_neg (by omega)]
theorem prS_le (s : Nat) : ∀ n, prS s n ≤ 288 * n
  | 0 => Nat.zero_le _
  | n + 1 => by
    have h := prS_le s n
    have h2 := prO_lt s n 12 (by decide)
    unfold prS
    split <;> omega
theorem an_mul (s a b : Nat) : (s / 2 ^ a &&& s / 2 ^ b &&& 1) = s / 2 ^ a % 2 * (s / 2 ^ b % 2) := by
  rw [Nat.and_one_is_mod, show (2 : Nat) = 2 ^ 1 from rfl, Nat.and_mod_two_pow, show (2 : Nat) ^ 1 = 2 from rfl]
  rcases (show s / 2 ^ a % 2 = 0 ∨ s / 2 ^ a % 2 = 1 by omega) with h1 | h1 <;> rcases (show s / 2 ^ b % 2 = 0 ∨ s / 2 ^ b % 2 = 1 by omega) with h2 | h2 <;> rw [h1, h2] <;> rfl
/-- each pair of tones has one interval -/
theorem prI_sum (s t x1 x2 x3 x4 x5 x6 : Nat) (ht : t < 12) : ∀ n, n ≤ t → prI s 1 t x1 n + prI s 2 t x2 n + prI s 3 t x3 n + prI s 4 t x4 n + prI s 5 t x5 n + prI s 6 t x6 n = x1 + x2 + x3 + x4 + x5 + x6 + s / 2 ^ t % 2 * popK s n
  | 0, _ => by
    show x1 + x2 + x3 + x4 + x5 + x6 = x1 + x2 + x3 + x4 + x5 + x6 + s / 2 ^ t % 2 * 0
    omega
  | n + 1, hn => by
    have ih := prI_sum s t x1 x2 x3 x4 x5 x6 ht n (by omega)
    have e : ∀ i x, prI s i t x (n + 1) = prI s i t x n + if (t : Int) - (n : Int) = (i : Int) ∨ (t : Int) - (n : Int) = 12 - (i : Int) then (s / 2 ^ t &&& s / 2 ^ n &&& 1) else 0 := fun i x => by
      show (if (t : Int) - (n : Int) = (i : Int) ∨ (t : Int) - (n : Int) = 12 - (i : Int) then prI s i t x n + (s / 2 ^ t &&& s / 2 ^ n &&& 1) else prI s i t x n) = _
      split <;> omega
    rw [e, e, e, e, e, e, an_mul]
    have hp : s / 2 ^ t % 2 * popK s (n + 1) = s / 2 ^ t % 2 * popK s n + s / 2 ^ t % 2 * (s / 2 ^ n % 2) := by
      show s / 2 ^ t % 2 * (popK s n + s / 2 ^ n % 2) = _
      rw [Nat.mul_add]
    rw [hp]
    generalize s / 2 ^ t % 2 * (s / 2 ^ n % 2) = z at *
    generalize s / 2 ^ t % 2 * popK s n = y at *
    rcases (show (t : Int) - (n : Int) = 1 ∨ (t : Int) - (n : Int) = 2 ∨ (t : Int) - (n : Int) = 3 ∨ (t : Int) - (n : Int) = 4 ∨ (t : Int) - (n : Int) = 5 ∨ (t : Int) - (n : Int) = 6 ∨ (t : Int) - (n : Int) = 7 ∨ (t : Int) - (n : Int) = 8 ∨ (t : Int) - (n : Int) = 9 ∨ (t : Int) - (n : Int) = 10 ∨ (t : Int) - (n : Int) = 11 by omega) with h | h | h | h | h | h | h | h | h | h | h <;> rw [h] <;> simp <;> omega
theorem prO_sum (s : Nat) : ∀ n, n ≤ 12 → 2 * (prO s 1 n + prO s 2 n + prO s 3 n + prO s 4 n + prO s 5 n + prO s 6 n) + popK s n = popK s n * popK s n
  | 0, _ => rfl
  | n + 1, hn => by
    have ih := prO_sum s n (by omega)
    have h := prI_sum s n (prO s 1 n) (prO s 2 n) (prO s 3 n) (prO s 4 n) (prO s 5 n) (prO s 6 n) (by omega) n (Nat.le_refl _)
    show 2 * (prI s 1 n (prO s 1 n) n + prI s 2 n (prO s 2 n) n + prI s 3 n (prO s 3 n) n + prI s 4 n (prO s 4 n) n + prI s 5 n (prO s 5 n) n + prI s 6 n (prO s 6 n) n) + (popK s n + s / 2 ^ n % 2) = (popK s n + s / 2 ^ n % 2) * (popK s n + s / 2 ^ n % 2)
    rw [h]
    generalize popK s n = P at *
    rcases (show s / 2 ^ n % 2 = 0 ∨ s / 2 ^ n % 2 = 1 by omega) with hb | hb <;> rw [hb]
    · rw [Nat.zero_mul, Nat.add_zero, Nat.add_zero]
      exact ih
    · have e9 : (P + 1) * (P + 1) = P * P + 2 * P + 1 := by
        rw [Nat.add_mul, Nat.mul_add, Nat.mul_one, Nat.one_mul]
        omega
      rw [e9]
      omega
theorem ps_sum {s n : Nat} (h : n = 7) : ((prS s n : Nat) : Int) = ((popN s : Nat) : Int) * (((popN s : Nat) : Int) - 1) / 2 := by
  subst h
  have h := prO_sum s 12 (Nat.le_refl _)
  have e : prS s 7 = prO s 1 12 + prO s 2 12 + prO s 3 12 + prO s 4 12 + prO s 5 12 + prO s 6 12 := by
    simp [prS]
  rw [← e] at h
  have h2 : 2 * ((prS s 7 : Nat) : Int) + ((popN s : Nat) : Int) = ((popN s : Nat) : Int) * ((popN s : Nat) : Int) := by
    have := congrArg (fun z : Nat => ((z : Nat) : Int)) h
    simpa [popN] using this
  rw [Int.mul_sub, Int.mul_one]
  omega
theorem ps_pos (s : Nat) : 0 ≤ ((popN s : Nat) : Int) * (((popN s : Nat) : Int) - 1) ∧ ((popN s : Nat) : Int) * (((popN s : Nat) : Int) - 1) ≤ 132 := by
  have h := popN_le s
  generalize popN s = P at *
  have : ∀ P, P ≤ 12 → 0 ≤ ((P : Nat) : Int) * (((P : Nat) : Int) - 1) ∧ ((P : Nat) : Int) * (((P : Nat) : Int) - 1) ≤ 132 := by decide
  exact this P h
/-! the other tones -/
theorem co_bit {s t : Nat} (hs : s < 4096) (ht : t < 12) : (4095 - s).testBit t = !s.testBit t := by
  have h := Nat.testBit_two_pow_sub_succ (x := s) (n := 12) hs t
  rw [show 2 ^ 12 - (s + 1) = 4095 - s by omega] at h
  rw [h]
  simp [ht]
theorem co_and (x y : Bool) : (!x && !y).toNat + x.toNat + y.toNat = 1 + (x && y).toNat := by cases x <;> cases y <;> rfl
theorem pop_12 (s : Nat) : popN s = (s.testBit 0).toNat + (s.testBit 1).toNat + (s.testBit 2).toNat + (s.testBit 3).toNat + (s.testBit 4).toNat + (s.testBit 5).toNat + (s.testBit 6).toNat + (s.testBit 7).toNat + (s.testBit 8).toNat + (s.testBit 9).toNat + (s.testBit 10).toNat + (s.testBit 11).toNat := by
  have h := pop_bit s 12
  unfold popN
  rw [h]
  simp [List.range, List.range.loop]
theorem cq_1 {s : Nat} (hs : s < 4096) : prO (4095 - s) 1 12 + 2 * popN s = 12 + prO s 1 12 := by
  rw [prE1_eq, prE1_eq, pop_12]
  simp only [prE1, an_bit]
  rw [co_bit hs (t := 0) (by decide), co_bit hs (t := 1) (by decide), co_bit hs (t := 2) (by decide), co_bit hs (t := 3) (by decide), co_bit hs (t := 4) (by decide), co_bit hs (t := 5) (by decide), co_bit hs (t := 6) (by decide), co_bit hs (t := 7) (by decide), co_bit hs (t := 8) (by decide), co_bit hs (t := 9) (by decide), co_bit hs (t := 10) (by decide), co_bit hs (t := 11) (by decide)]
  have h0 := co_and (s.testBit 1) (s.testBit 0)
  have h1 := co_and (s.testBit 2) (s.testBit 1)
  have h2 := co_and (s.testBit 3) (s.testBit 2)
  have h3 := co_and (s.testBit 4) (s.testBit 3)
  have h4 := co_and (s.testBit 5) (s.testBit 4)
  have h5 := co_and (s.testBit 6) (s.testBit 5)
  have h6 := co_and (s.testBit 7) (s.testBit 6)
  have h7 := co_and (s.testBit 8) (s.testBit 7)
  have h8 := co_and (s.testBit 9) (s.testBit 8)
  have h9 := co_and (s.testBit 10) (s.testBit 9)
  have h10 := co_and (s.testBit 11) (s.testBit 0)
  have h11 := co_and (s.testBit 11) (s.testBit 10)
  omega
theorem cq_2 {s : Nat} (hs : s < 4096) : prO (4095 - s) 2 12 + 2 * popN s = 12 + prO s 2 12 := by
  rw [prE2_eq, prE2_eq, pop_12]
  simp only [prE2, an_bit]
  rw [co_bit hs (t := 0) (by decide), co_bit hs (t := 1) (by decide), co_bit hs (t := 2) (by decide), co_bit hs (t := 3) (by decide), co_bit hs (t := 4) (by decide), co_bit hs (t := 5) (by decide), co_bit hs (t := 6) (by decide), co_bit hs (t := 7) (by decide), co_bit hs (t := 8) (by decide), co_bit hs (t := 9) (by decide), co_bit hs (t := 10) (by decide), co_bit hs (t := 11) (by decide)]
  have h0 := co_and (s.testBit 2) (s.testBit 0)
  have h1 := co_and (s.testBit 3) (s.testBit 1)
  have h2 := co_and (s.testBit 4) (s.testBit 2)
  have h3 := co_and (s.testBit 5) (s.testBit 3)
  have h4 := co_and (s.testBit 6) (s.testBit 4)
  have h5 := co_and (s.testBit 7) (s.testBit 5)
  have h6 := co_and (s.testBit 8) (s.testBit 6)
  have h7 := co_and (s.testBit 9) (s.testBit 7)
  have h8 := co_and (s.testBit 10) (s.testBit 0)
  have h9 := co_and (s.testBit 10) (s.testBit 8)
  have h10 := co_and (s.testBit 11) (s.testBit 1)
  have h11 := co_and (s.testBit 11) (s.testBit 9)
  omega
theorem cq_3 {s : Nat} (hs : s < 4096) : prO (4095 - s) 3 12 + 2 * popN s = 12 + prO s 3 12 := by
  rw [prE3_eq, prE3_eq, pop_12]
  simp only [prE3, an_bit]
  rw [co_bit hs (t := 0) (by decide), co_bit hs (t := 1) (by decide), co_bit hs (t := 2) (by decide), co_bit hs (t := 3) (by decide), co_bit hs (t := 4) (by decide), co_bit hs (t := 5) (by decide), co_bit hs (t := 6) (by decide), co_bit hs (t := 7) (by decide), co_bit hs (t := 8) (by decide), co_bit hs (t := 9) (by decide), co_bit hs (t := 10) (by decide), co_bit hs (t := 11) (by decide)]
  have h0 := co_and (s.testBit 3) (s.testBit 0)
  have h1 := co_and (s.testBit 4) (s.testBit 1)
  have h2 := co_and (s.testBit 5) (s.testBit 2)
  have h3 := co_and (s.testBit 6) (s.testBit 3)
  have h4 := co_and (s.testBit 7) (s.testBit 4)
  have h5 := co_and (s.testBit 8) (s.testBit 5)
  have h6 := co_and (s.testBit 9) (s.testBit 0)
  have h7 := co_and (s.testBit 9) (s.testBit 6)
  have h8 := co_and (s.testBit 10) (s.testBit 1)
  have h9 := co_and (s.testBit 10) (s.testBit 7)
  have h10 := co_and (s.testBit 11) (s.testBit 2)
  have h11 := co_and (s.testBit 11) (s.testBit 8)
  omega
theorem cq_4 {s : Nat} (hs : s < 4096) : prO (4095 - s) 4 12 + 2 * popN s = 12 + prO s 4 12 := by
  rw [prE4_eq, prE4_eq, pop_12]
  simp only [prE4, an_bit]
  rw [co_bit hs (t := 0) (by decide), co_bit hs (t := 1) (by decide), co_bit hs (t := 2) (by decide), co_bit hs (t := 3) (by decide), co_bit hs (t := 4) (by decide), co_bit hs (t := 5) (by decide), co_bit hs (t := 6) (by decide), co_bit hs (t := 7) (by decide), co_bit hs (t := 8) (by decide), co_bit hs (t := 9) (by decide), co_bit hs (t := 10) (by decide), co_bit hs (t := 11) (by decide)]
  have h0 := co_and (s.testBit 4) (s.testBit 0)
  have h1 := co_and (s.testBit 5) (s.testBit 1)
  have h2 := co_and (s.testBit 6) (s.testBit 2)
  have h3 := co_and (s.testBit 7) (s.testBit 3)
  have h4 := co_and (s.testBit 8) (s.testBit 0)
  have h5 := co_and (s.testBit 8) (s.testBit 4)
  have h6 := co_and (s.testBit 9) (s.testBit 1)
  have h7 := co_and (s.testBit 9) (s.testBit 5)
  have h8 := co_and (s.testBit 10) (s.testBit 2)
  have h9 := co_and (s.testBit 10) (s.testBit 6)
  have h10 := co_and (s.testBit 11) (s.testBit 3)
  have h11 := co_and (s.testBit 11) (s.testBit 7)
  omega
theorem cq_5 {s : Nat} (hs : s < 4096) : prO (4095 - s) 5 12 + 2 * popN s = 12 + prO s 5 12 := by
  rw [prE5_eq, prE5_eq, pop_12]
  simp only [prE5, an_bit]
  rw [co_bit hs (t := 0) (by decide), co_bit hs (t := 1) (by decide), co_bit hs (t := 2) (by decide), co_bit hs (t := 3) (by decide), co_bit hs (t := 4) (by decide), co_bit hs (t := 5) (by decide), co_bit hs (t := 6) (by decide), co_bit hs (t := 7) (by decide), co_bit hs (t := 8) (by decide), co_bit hs (t := 9) (by decide), co_bit hs (t := 10) (by decide), co_bit hs (t := 11) (by decide)]
  have h0 := co_and (s.testBit 5) (s.testBit 0)
  have h1 := co_and (s.testBit 6) (s.testBit 1)
  have h2 := co_and (s.testBit 7) (s.testBit 0)
  have h3 := co_and (s.testBit 7) (s.testBit 2)
  have h4 := co_and (s.testBit 8) (s.testBit 1)
  have h5 := co_and (s.testBit 8) (s.testBit 3)
  have h6 := co_and (s.testBit 9) (s.testBit 2)
  have h7 := co_and (s.testBit 9) (s.testBit 4)
  have h8 := co_and (s.testBit 10) (s.testBit 3)
  have h9 := co_and (s.testBit 10) (s.testBit 5)
  have h10 := co_and (s.testBit 11) (s.testBit 4)
  have h11 := co_and (s.testBit 11) (s.testBit 6)
  omega
theorem cq_6 {s : Nat} (hs : s < 4096) : prO (4095 - s) 6 12 + popN s = 6 + prO s 6 12 := by
  rw [prE6_eq, prE6_eq, pop_12]
  simp only [prE6, an_bit]
  rw [co_bit hs (t := 0) (by decide), co_bit hs (t := 1) (by decide), co_bit hs (t := 2) (by decide), co_bit hs (t := 3) (by decide), co_bit hs (t := 4) (by decide), co_bit hs (t := 5) (by decide), co_bit hs (t := 6) (by decide), co_bit hs (t := 7) (by decide), co_bit hs (t := 8) (by decide), co_bit hs (t := 9) (by decide), co_bit hs (t := 10) (by decide), co_bit hs (t := 11) (by decide)]
  have h0 := co_and (s.testBit 6) (s.testBit 0)
  have h1 := co_and (s.testBit 7) (s.testBit 1)
  have h2 := co_and (s.testBit 8) (s.testBit 2)
  have h3 := co_and (s.testBit 9) (s.testBit 3)
  have h4 := co_and (s.testBit 10) (s.testBit 4)
  have h5 := co_and (s.testBit 11) (s.testBit 5)
  omega
theorem co_no {s i : Nat} (hs : s < 4096) (h1 : 1 ≤ i) (h2 : i ≤ 6) (h : ¬ i = 6) : ((prO (4095 - s) i 12 : Nat) : Int) - ((prO s i 12 : Nat) : Int) = 12 - ((2 * popN s : Nat) : Int) := by
  have k1 := cq_1 hs
  have k2 := cq_2 hs
  have k3 := cq_3 hs
  have k4 := cq_4 hs
  have k5 := cq_5 hs
  rcases (show i = 1 ∨ i = 2 ∨ i = 3 ∨ i = 4 ∨ i = 5 by omega) with rfl | rfl | rfl | rfl | rfl <;> omega
theorem co_at {s i : Nat} (hs : s < 4096) (h : i = 6) : ((prO (4095 - s) i 12 : Nat) : Int) - ((prO s i 12 : Nat) : Int) = 6 - ((popN s : Nat) : Int) := by
  have k6 := cq_6 hs
  subst h
  omega
theorem co_div (P : Nat) : (12 - ((2 * P : Nat) : Int)).tdiv 2 = 6 - ((P : Nat) : Int) := by
  have e : 12 - ((2 * P : Nat) : Int) = (6 - ((P : Nat) : Int)) * 2 := by omega
  rw [e, Int.mul_tdiv_cancel _ (by decide)]
/-! classes: the least of what is moved, and of what is turned and moved -/
theorem mv_F {s b t : Nat} (hb : b < 12) (ht : t < 12) : (mvN s b False 12).testBit t = s.testBit (md ((t : Int) - (b : Int))) := by
  rw [mv_bit]
  refine or_at (md_lt _) (fun i hi => ?_)
  simp only [if_false]
  unfold md
  omega
theorem mv_T {s b t : Nat} (hb : b < 12) (ht : t < 12) : (mvN s b True 12).testBit t = s.testBit (md ((b : Int) - (t : Int))) := by
  rw [mv_bit]
  refine or_at (md_lt _) (fun i hi => ?_)
  simp only [if_true]
  unfold md
  omega
def mvB (s b : Nat) (T : Bool) : Nat := if T then mvN s b True 12 else mvN s b False 12
theorem mvB_lt (s b : Nat) (T : Bool) : mvB s b T < 4096 := by
  unfold mvB
  split
  · exact mvN_lt s b True 12
  · exact mvN_lt s b False 12
theorem mvB_bit {s b t : Nat} {T : Bool} (hb : b < 12) (ht : t < 12) : (mvB s b T).testBit t = s.testBit (md (if T then (b : Int) - (t : Int) else (t : Int) - (b : Int))) := by
  cases T
  · exact mv_F hb ht
  · exact mv_T hb ht
theorem mvB_0 {s : Nat} (hs : s < 4096) : mvB s 0 false = s := set_ext (mvB_lt _ _ _) hs fun t ht => by
  rw [mvB_bit (by decide) ht]
  refine congrArg s.testBit ?_
  show md ((t : Int) - ((0 : Nat) : Int)) = t
  unfold md
  omega
/-- one after the other -/
theorem mvB_mvB {s b c : Nat} {T U : Bool} (hb : b < 12) (hc : c < 12) : mvB (mvB s b T) c U = mvB s (md (if U then (c : Int) - (b : Int) else (c : Int) + (b : Int))) (T != U) := set_ext (mvB_lt _ _ _) (mvB_lt _ _ _) fun t ht => by
  rw [mvB_bit hc ht, mvB_bit hb (md_lt _), mvB_bit (md_lt _) ht]
  refine congrArg s.testBit ?_
  cases T <;> cases U <;> simp <;> unfold md <;> omega
theorem ls_le (s : Nat) : ∀ n b T, b < n → lsN s n ≤ mvB s b T
  | 0, b, _, h => absurd h (Nat.not_lt_zero b)
  | n + 1, b, T, h => by
    have e : lsN s (n + 1) = min (min (lsN s n) (mvN s n False 12)) (mvN s n True 12) := rfl
    by_cases hb : b = n
    · subst hb
      cases T
      · show _ ≤ mvN s b False 12
        omega
      · show _ ≤ mvN s b True 12
        omega
    · have := ls_le s n b T (by omega)
      omega
theorem ls_at (s : Nat) : ∀ n, lsN s n = s ∨ ∃ b T, b < n ∧ lsN s n = mvB s b T
  | 0 => Or.inl rfl
  | n + 1 => by
    have e : lsN s (n + 1) = min (min (lsN s n) (mvN s n False 12)) (mvN s n True 12) := rfl
    rcases (show lsN s (n + 1) = lsN s n ∨ lsN s (n + 1) = mvN s n False 12 ∨ lsN s (n + 1) = mvN s n True 12 by omega) with h | h | h
    · rcases ls_at s n with h2 | ⟨b, T, hb, h2⟩
      · exact Or.inl (h.trans h2)
      · exact Or.inr ⟨b, T, by omega, h.trans h2⟩
    · exact Or.inr ⟨n, false, by omega, h⟩
    · exact Or.inr ⟨n, true, by omega, h⟩
theorem ls_mv {s : Nat} (hs : s < 4096) : ∃ b T, b < 12 ∧ lsN s 12 = mvB s b T := by
  rcases ls_at s 12 with h | h
  · exact ⟨0, false, by decide, by rw [mvB_0 hs]; exact h⟩
  · exact h
theorem ls_orb {s b : Nat} {T : Bool} (hs : s < 4096) (hb : b < 12) : lsN (mvB s b T) 12 = lsN s 12 := by
  apply Nat.le_antisymm
  · obtain ⟨c, U, hc, h⟩ := ls_mv hs
    have hs2 : s = mvB (mvB s b T) (md (if T then (b : Int) else -(b : Int))) T := by
      rw [mvB_mvB hb (md_lt _)]
      have e : (T != T) = false := by cases T <;> rfl
      rw [e]
      have e2 : md (if T then ((md (if T then (b : Int) else -(b : Int)) : Nat) : Int) - (b : Int) else ((md (if T then (b : Int) else -(b : Int)) : Nat) : Int) + (b : Int)) = 0 := by
        cases T <;> simp <;> unfold md <;> omega
      rw [e2, mvB_0 hs]
    rw [h]
    have h3 : mvB s c U = mvB (mvB (mvB s b T) (md (if T then (b : Int) else -(b : Int))) T) c U := by rw [← hs2]
    rw [h3, mvB_mvB (md_lt _) hc]
    exact ls_le _ 12 _ _ (md_lt _)
  · obtain ⟨c, U, hc, h⟩ := ls_mv (mvB_lt s b T)
    rw [h, mvB_mvB hb hc]
    exact ls_le _ 12 _ _ (md_lt _)
theorem ls_up {s : Nat} (hs : s < 4096) : lsN (trN s 1) 12 = lsN s 12 := by
  rw [tr_mv hs (by decide)]
  exact ls_orb (T := false) hs (by decide)
theorem ls_ls {s : Nat} (hs : s < 4096) : lsN (lsN s 12) 12 = lsN s 12 := by
  obtain ⟨c, U, hc, h⟩ := ls_mv hs
  rw [h, ls_orb hs hc, h]
