/-! ===== the heavier facts of rows, forms and sets ===== -/
theorem ivsN_even {a : Nat → Nat} (ha : Pm a) : ∀ n, n ≤ 11 → ivsN a n % 2 = 0
  | 0, _ => rfl
  | n + 1, hn => by
    have ih := ivsN_even ha n (by omega)
    have h1 := ha.1 n (by omega)
    have h2 := ha.1 (n + 1) (by omega)
    have h3 : a (n + 1) ≠ a n := fun q => by have := ha.2 _ _ (by omega) (by omega) q; omega
    have h4 : md (((a (n + 1) : Nat) : Int) - ((a n : Nat) : Int)) ≠ 0 := by unfold md; omega
    obtain ⟨k, hk⟩ : ∃ k, md (((a (n + 1) : Nat) : Int) - ((a n : Nat) : Int)) = k + 1 := ⟨_, (Nat.succ_pred_eq_of_ne_zero h4).symm⟩
    show (ivsN a n ||| 2 ^ md _) % 2 = 0
    rw [hk]
    have h5 : (ivsN a n ||| 2 ^ (k + 1)).testBit 0 = false := by
      rw [Nat.testBit_or, Nat.testBit_two_pow, Nat.testBit_zero]
      simp [ih]
    rw [Nat.testBit_zero] at h5
    have h6 := of_decide_eq_false h5
    omega
theorem dm2 (x : Nat) : x = 2 * (x / 2) + x % 2 ∧ x % 2 < 2 := by omega
theorem dn2 (s k : Nat) : s / 2 ^ k / 2 = s / 2 ^ (k + 1) := by rw [Nat.div_div_eq_div_mul, ← Nat.pow_succ]
theorem pop_11 (s : Nat) (hs : s < 4096) (h0 : s % 2 = 0) : popN s = 11 ↔ s = 4094 := by
  constructor
  · intro h
    have hp : ((((((((((((0 + s / 2 ^ 0 % 2) + s / 2 ^ 1 % 2) + s / 2 ^ 2 % 2) + s / 2 ^ 3 % 2) + s / 2 ^ 4 % 2) + s / 2 ^ 5 % 2) + s / 2 ^ 6 % 2) + s / 2 ^ 7 % 2) + s / 2 ^ 8 % 2) + s / 2 ^ 9 % 2) + s / 2 ^ 10 % 2) + s / 2 ^ 11 % 2) = 11 := h
    have d0 := dm2 (s / 2 ^ 0)
    rw [dn2 s 0] at d0
    have d1 := dm2 (s / 2 ^ 1)
    rw [dn2 s 1] at d1
    have d2 := dm2 (s / 2 ^ 2)
    rw [dn2 s 2] at d2
    have d3 := dm2 (s / 2 ^ 3)
    rw [dn2 s 3] at d3
    have d4 := dm2 (s / 2 ^ 4)
    rw [dn2 s 4] at d4
    have d5 := dm2 (s / 2 ^ 5)
    rw [dn2 s 5] at d5
    have d6 := dm2 (s / 2 ^ 6)
    rw [dn2 s 6] at d6
    have d7 := dm2 (s / 2 ^ 7)
    rw [dn2 s 7] at d7
    have d8 := dm2 (s / 2 ^ 8)
    rw [dn2 s 8] at d8
    have d9 := dm2 (s / 2 ^ 9)
    rw [dn2 s 9] at d9
    have d10 := dm2 (s / 2 ^ 10)
    rw [dn2 s 10] at d10
    have d11 := dm2 (s / 2 ^ 11)
    rw [dn2 s 11] at d11
    rw [show s / 2 ^ 0 = s from Nat.div_one s] at d0 hp
    have hz : s / 2 ^ (11 + 1) = 0 := Nat.div_eq_of_lt (show s < 2 ^ 12 from hs)
    simp only [Nat.reduceAdd] at d0 d1 d2 d3 d4 d5 d6 d7 d8 d9 d10 d11 hz
    generalize s / 2 ^ 1 = q1 at *
    generalize s / 2 ^ 2 = q2 at *
    generalize s / 2 ^ 3 = q3 at *
    generalize s / 2 ^ 4 = q4 at *
    generalize s / 2 ^ 5 = q5 at *
    generalize s / 2 ^ 6 = q6 at *
    generalize s / 2 ^ 7 = q7 at *
    generalize s / 2 ^ 8 = q8 at *
    generalize s / 2 ^ 9 = q9 at *
    generalize s / 2 ^ 10 = q10 at *
    generalize s / 2 ^ 11 = q11 at *
    generalize s / 2 ^ 12 = q12 at *
    generalize s % 2 = b0 at *
    generalize q1 % 2 = b1 at *
    generalize q2 % 2 = b2 at *
    generalize q3 % 2 = b3 at *
    generalize q4 % 2 = b4 at *
    generalize q5 % 2 = b5 at *
    generalize q6 % 2 = b6 at *
    generalize q7 % 2 = b7 at *
    generalize q8 % 2 = b8 at *
    generalize q9 % 2 = b9 at *
    generalize q10 % 2 = b10 at *
    generalize q11 % 2 = b11 at *
    have e1 : b1 = 1 := by omega
    have e2 : b2 = 1 := by omega
    have e3 : b3 = 1 := by omega
    have e4 : b4 = 1 := by omega
    have e5 : b5 = 1 := by omega
    have e6 : b6 = 1 := by omega
    have e7 : b7 = 1 := by omega
    have e8 : b8 = 1 := by omega
    have e9 : b9 = 1 := by omega
    have e10 : b10 = 1 := by omega
    have e11 : b11 = 1 := by omega
    omega
  · intro h
    subst h
    rfl
theorem hap {a : Nat → Nat} (ha : Pm a) : popN (ivsN a 11) = 11 ↔ ivsN a 11 = 4094 := pop_11 _ (ivsN_lt a 11) (ivsN_even ha 11 (Nat.le_refl _))
/-! sets moved and turned -/
theorem tb_md {s : Nat} (hs : s < 4096) {k : Nat} (hk : 12 ≤ k) : s.testBit k = false := nx_tb (n := 12) hs hk
theorem tr_bit {s b t : Nat} (hs : s < 4096) (hb : b < 12) (ht : t < 12) : (trN s b).testBit t = s.testBit (md ((t : Int) - (b : Int))) := by
  unfold trN
  rw [Nat.testBit_and, Nat.testBit_or, Nat.testBit_mul_two_pow, Nat.testBit_div_two_pow, show (4095 : Nat) = 2 ^ 12 - 1 from rfl, Nat.testBit_two_pow_sub_one]
  rw [decide_eq_true ht, Bool.and_true]
  by_cases h : b ≤ t
  · rw [decide_eq_true h, Bool.true_and, tb_md hs (show 12 ≤ t + (12 - b) by omega), Bool.or_false, show md ((t : Int) - (b : Int)) = t - b by unfold md; omega]
  · rw [decide_eq_false h, Bool.false_and, Bool.false_or, show md ((t : Int) - (b : Int)) = t + (12 - b) by unfold md; omega]
theorem sh_bit (s n k t : Nat) : ((s / 2 ^ n &&& 1) * 2 ^ k).testBit t = (s.testBit n && decide (k = t)) := by
  rw [tb_1]
  by_cases h : s.testBit n = true
  · rw [if_pos h, Nat.one_mul, Nat.testBit_two_pow, h, Bool.true_and]
  · rw [if_neg h, Nat.zero_mul, Nat.zero_testBit]
    rw [show s.testBit n = false by simpa using h, Bool.false_and]
theorem mv_bit (s b : Nat) (T : Prop) [Decidable T] (t : Nat) : ∀ n, (mvN s b T n).testBit t = orN (fun i => s.testBit i && decide (md (if T then ((b : Nat) : Int) - ((i : Nat) : Int) else ((b : Nat) : Int) + ((i : Nat) : Int)) = t)) n
  | 0 => Nat.zero_testBit t
  | n + 1 => by
    show (mvN s b T n ||| (s / 2 ^ n &&& 1) * 2 ^ md _).testBit t = _
    rw [Nat.testBit_or, mv_bit s b T t n, sh_bit]
    rfl
theorem iv_bit (s t : Nat) : ∀ n, (ivN s n).testBit t = orN (fun i => s.testBit i && decide (md (-(i : Int)) = t)) n
  | 0 => Nat.zero_testBit t
  | n + 1 => by
    show (ivN s n ||| (s / 2 ^ n &&& 1) * 2 ^ md _).testBit t = _
    rw [Nat.testBit_or, iv_bit s t n, sh_bit]
    rfl
/-- a sum over the twelve places with one that counts -/
theorem or_one {p : Nat → Bool} {c : Nat → Nat} {k : Nat} (hk : k < 12) (hc : ∀ i, i < 12 → (c i = 0 ↔ i = k)) : orN (fun i => p i && decide (c i = 0)) 12 = p k := by
  cases h : p k
  · cases h2 : orN (fun i => p i && decide (c i = 0)) 12
    · rfl
    · obtain ⟨i, hi, h3⟩ := or_iff.mp h2
      simp only [Bool.and_eq_true, decide_eq_true_eq] at h3
      rw [(hc i hi).mp h3.2, h] at h3
      cases h3.1
  · refine or_iff.mpr ⟨k, hk, ?_⟩
    simp only [Bool.and_eq_true, decide_eq_true_eq]
    exact ⟨h, (hc k hk).mpr rfl⟩
theorem or_cg {p p' : Nat → Bool} : ∀ {n : Nat}, (∀ i, i < n → p i = p' i) → orN p n = orN p' n
  | 0, _ => rfl
  | n + 1, h => by
    show (orN p n || p n) = (orN p' n || p' n)
    rw [or_cg (n := n) (fun i hi => h i (by omega)), h n (by omega)]
theorem or_at {s : Nat} {g : Nat → Nat} {t k : Nat} (hk : k < 12) (hc : ∀ i, i < 12 → (g i = t ↔ i = k)) : orN (fun i => s.testBit i && decide (g i = t)) 12 = s.testBit k := by
  have h := or_one (p := fun i => s.testBit i) (c := fun i => if g i = t then 0 else 1) hk (fun i hi => by
    show (if g i = t then 0 else 1) = 0 ↔ i = k
    rw [← hc i hi]
    by_cases h : g i = t <;> simp [h])
  rw [← h]
  exact or_cg fun i hi => by
    by_cases h : g i = t <;> simp [h]
theorem set_ext {x y : Nat} (hx : x < 4096) (hy : y < 4096) (h : ∀ t, t < 12 → x.testBit t = y.testBit t) : x = y := Nat.eq_of_testBit_eq fun t => by
  by_cases ht : t < 12
  · exact h t ht
  · rw [tb_md hx (by omega), tb_md hy (by omega)]
theorem tr_mv {s b : Nat} (hs : s < 4096) (hb : b < 12) : trN s b = mvN s b False 12 := set_ext (trN_lt s b) (mvN_lt s b False 12) fun t ht => by
  rw [tr_bit hs hb ht, mv_bit]
  exact (or_at (g := fun i => md (if False then ((b : Nat) : Int) - ((i : Nat) : Int) else ((b : Nat) : Int) + ((i : Nat) : Int))) (md_lt _) (fun i hi => by
    show md (if False then _ else _) = t ↔ _
    rw [if_neg (fun h => h)]
    unfold md
    omega)).symm
theorem tr_iv {s b : Nat} (hs : s < 4096) (hb : b < 12) : trN (ivN s 12) b = mvN s b True 12 := set_ext (trN_lt _ b) (mvN_lt s b True 12) fun t ht => by
  rw [tr_bit (ivN_lt s 12) hb ht, mv_bit, iv_bit]
  rw [or_at (g := fun i => md (-(i : Int))) (k := md ((b : Int) - (t : Int))) (md_lt _) (fun i hi => by show md _ = md _ ↔ _; unfold md; omega)]
  exact (or_at (g := fun i => md (if True then ((b : Nat) : Int) - ((i : Nat) : Int) else ((b : Nat) : Int) + ((i : Nat) : Int))) (md_lt _) (fun i hi => by
    show md (if True then _ else _) = t ↔ _
    rw [if_pos trivial]
    unfold md
    omega)).symm
theorem ll_ls' {s : Nat} (hs : s < 4096) : ∀ n, n ≤ 12 → llN s n = lsN s n
  | 0, _ => rfl
  | n + 1, hn => by
    show min (llN s n) (min (trN s n) (trN (ivN s 12) n)) = min (min (lsN s n) (mvN s n False 12)) (mvN s n True 12)
    rw [ll_ls' hs n (by omega), tr_mv hs (by omega), tr_iv hs (by omega), Nat.min_assoc]

theorem pop_bit (x : Nat) : ∀ n, popK x n = (List.range n).foldl (fun c t => c + (x.testBit t).toNat) 0
  | 0 => rfl
  | n + 1 => by
    rw [List.range_succ, List.foldl_append, ← pop_bit x n]
    show popK x n + x / 2 ^ n % 2 = popK x n + (x.testBit n).toNat
    rw [Nat.testBit_eq_decide_div_mod_eq]
    by_cases h : x / 2 ^ n % 2 = 1
    · rw [decide_eq_true h, h]; rfl
    · rw [decide_eq_false h, show x / 2 ^ n % 2 = 0 by omega]; rfl
theorem an_bit (s a b : Nat) : (s / 2 ^ a &&& s / 2 ^ b &&& 1) = (s.testBit a && s.testBit b).toNat := by
  rw [Nat.and_one_is_mod, show (s / 2 ^ a &&& s / 2 ^ b) % 2 = ((s / 2 ^ a &&& s / 2 ^ b).testBit 0).toNat by
    rw [Nat.testBit_zero]
    rcases Nat.mod_two_eq_zero_or_one (s / 2 ^ a &&& s / 2 ^ b) with h | h <;> rw [h] <;> rfl]
  rw [Nat.testBit_and, Nat.testBit_div_two_pow, Nat.testBit_div_two_pow, Nat.zero_add, Nat.zero_add]
theorem pt_bit {s i t : Nat} (hs : s < 4096) (hi : i < 12) (ht : t < 12) : (s &&& trN s i).testBit t = (s.testBit t && s.testBit (md ((t : Int) - (i : Int)))) := by
  rw [Nat.testBit_and, tr_bit hs hi ht]
theorem pop_pt {s i : Nat} (hs : s < 4096) (hi : i < 12) : popN (s &&& trN s i) = (List.range 12).foldl (fun c t => c + (s.testBit t && s.testBit (md ((t : Int) - (i : Int)))).toNat) 0 := by
  unfold popN
  rw [pop_bit]
  show (((((((((((((0 + _) + _) + _) + _) + _) + _) + _) + _) + _) + _) + _) + _) : Nat) = _
  rw [pt_bit hs hi (show 0 < 12 by decide), pt_bit hs hi (show 1 < 12 by decide), pt_bit hs hi (show 2 < 12 by decide), pt_bit hs hi (show 3 < 12 by decide), pt_bit hs hi (show 4 < 12 by decide), pt_bit hs hi (show 5 < 12 by decide), pt_bit hs hi (show 6 < 12 by decide), pt_bit hs hi (show 7 < 12 by decide), pt_bit hs hi (show 8 < 12 by decide), pt_bit hs hi (show 9 < 12 by decide), pt_bit hs hi (show 10 < 12 by decide), pt_bit hs hi (show 11 < 12 by decide)]
  rfl
def prE1 (s : Nat) : Nat := ((((((((((((0 + (s / 2 ^ 1 &&& s / 2 ^ 0 &&& 1)) + (s / 2 ^ 2 &&& s / 2 ^ 1 &&& 1)) + (s / 2 ^ 3 &&& s / 2 ^ 2 &&& 1)) + (s / 2 ^ 4 &&& s / 2 ^ 3 &&& 1)) + (s / 2 ^ 5 &&& s / 2 ^ 4 &&& 1)) + (s / 2 ^ 6 &&& s / 2 ^ 5 &&& 1)) + (s / 2 ^ 7 &&& s / 2 ^ 6 &&& 1)) + (s / 2 ^ 8 &&& s / 2 ^ 7 &&& 1)) + (s / 2 ^ 9 &&& s / 2 ^ 8 &&& 1)) + (s / 2 ^ 10 &&& s / 2 ^ 9 &&& 1)) + (s / 2 ^ 11 &&& s / 2 ^ 0 &&& 1)) + (s / 2 ^ 11 &&& s / 2 ^ 10 &&& 1))
set_option maxRecDepth 100000 in
theorem prE1_eq (s : Nat) : prO s 1 12 = prE1 s := rfl
theorem pp1 {s : Nat} (hs : s < 4096) : popN (s &&& trN s 1) = ((((((((((((0 + (s.testBit 0 && s.testBit 11).toNat) + (s.testBit 1 && s.testBit 0).toNat) + (s.testBit 2 && s.testBit 1).toNat) + (s.testBit 3 && s.testBit 2).toNat) + (s.testBit 4 && s.testBit 3).toNat) + (s.testBit 5 && s.testBit 4).toNat) + (s.testBit 6 && s.testBit 5).toNat) + (s.testBit 7 && s.testBit 6).toNat) + (s.testBit 8 && s.testBit 7).toNat) + (s.testBit 9 && s.testBit 8).toNat) + (s.testBit 10 && s.testBit 9).toNat) + (s.testBit 11 && s.testBit 10).toNat) := pop_pt hs (by decide)
theorem prE1_ok {s : Nat} (hs : s < 4096) : popN (s &&& trN s 1) = prE1 s := by
  rw [pp1 hs]
  unfold prE1
  simp only [an_bit]
  rw [Bool.and_comm (s.testBit 0) (s.testBit 11)]
  omega
def prE2 (s : Nat) : Nat := ((((((((((((0 + (s / 2 ^ 2 &&& s / 2 ^ 0 &&& 1)) + (s / 2 ^ 3 &&& s / 2 ^ 1 &&& 1)) + (s / 2 ^ 4 &&& s / 2 ^ 2 &&& 1)) + (s / 2 ^ 5 &&& s / 2 ^ 3 &&& 1)) + (s / 2 ^ 6 &&& s / 2 ^ 4 &&& 1)) + (s / 2 ^ 7 &&& s / 2 ^ 5 &&& 1)) + (s / 2 ^ 8 &&& s / 2 ^ 6 &&& 1)) + (s / 2 ^ 9 &&& s / 2 ^ 7 &&& 1)) + (s / 2 ^ 10 &&& s / 2 ^ 0 &&& 1)) + (s / 2 ^ 10 &&& s / 2 ^ 8 &&& 1)) + (s / 2 ^ 11 &&& s / 2 ^ 1 &&& 1)) + (s / 2 ^ 11 &&& s / 2 ^ 9 &&& 1))
set_option maxRecDepth 100000 in
theorem prE2_eq (s : Nat) : prO s 2 12 = prE2 s := rfl
theorem pp2 {s : Nat} (hs : s < 4096) : popN (s &&& trN s 2) = ((((((((((((0 + (s.testBit 0 && s.testBit 10).toNat) + (s.testBit 1 && s.testBit 11).toNat) + (s.testBit 2 && s.testBit 0).toNat) + (s.testBit 3 && s.testBit 1).toNat) + (s.testBit 4 && s.testBit 2).toNat) + (s.testBit 5 && s.testBit 3).toNat) + (s.testBit 6 && s.testBit 4).toNat) + (s.testBit 7 && s.testBit 5).toNat) + (s.testBit 8 && s.testBit 6).toNat) + (s.testBit 9 && s.testBit 7).toNat) + (s.testBit 10 && s.testBit 8).toNat) + (s.testBit 11 && s.testBit 9).toNat) := pop_pt hs (by decide)
theorem prE2_ok {s : Nat} (hs : s < 4096) : popN (s &&& trN s 2) = prE2 s := by
  rw [pp2 hs]
  unfold prE2
  simp only [an_bit]
  rw [Bool.and_comm (s.testBit 0) (s.testBit 10), Bool.and_comm (s.testBit 1) (s.testBit 11)]
  omega
def prE3 (s : Nat) : Nat := ((((((((((((0 + (s / 2 ^ 3 &&& s / 2 ^ 0 &&& 1)) + (s / 2 ^ 4 &&& s / 2 ^ 1 &&& 1)) + (s / 2 ^ 5 &&& s / 2 ^ 2 &&& 1)) + (s / 2 ^ 6 &&& s / 2 ^ 3 &&& 1)) + (s / 2 ^ 7 &&& s / 2 ^ 4 &&& 1)) + (s / 2 ^ 8 &&& s / 2 ^ 5 &&& 1)) + (s / 2 ^ 9 &&& s / 2 ^ 0 &&& 1)) + (s / 2 ^ 9 &&& s / 2 ^ 6 &&& 1)) + (s / 2 ^ 10 &&& s / 2 ^ 1 &&& 1)) + (s / 2 ^ 10 &&& s / 2 ^ 7 &&& 1)) + (s / 2 ^ 11 &&& s / 2 ^ 2 &&& 1)) + (s / 2 ^ 11 &&& s / 2 ^ 8 &&& 1))
set_option maxRecDepth 100000 in
theorem prE3_eq (s : Nat) : prO s 3 12 = prE3 s := rfl
theorem pp3 {s : Nat} (hs : s < 4096) : popN (s &&& trN s 3) = ((((((((((((0 + (s.testBit 0 && s.testBit 9).toNat) + (s.testBit 1 && s.testBit 10).toNat) + (s.testBit 2 && s.testBit 11).toNat) + (s.testBit 3 && s.testBit 0).toNat) + (s.testBit 4 && s.testBit 1).toNat) + (s.testBit 5 && s.testBit 2).toNat) + (s.testBit 6 && s.testBit 3).toNat) + (s.testBit 7 && s.testBit 4).toNat) + (s.testBit 8 && s.testBit 5).toNat) + (s.testBit 9 && s.testBit 6).toNat) + (s.testBit 10 && s.testBit 7).toNat) + (s.testBit 11 && s.testBit 8).toNat) := pop_pt hs (by decide)
theorem prE3_ok {s : Nat} (hs : s < 4096) : popN (s &&& trN s 3) = prE3 s := by
  rw [pp3 hs]
  unfold prE3
  simp only [an_bit]
  rw [Bool.and_comm (s.testBit 0) (s.testBit 9), Bool.and_comm (s.testBit 1) (s.testBit 10), Bool.and_comm (s.testBit 2) (s.testBit 11)]
  omega
def prE4 (s : Nat) : Nat := ((((((((((((0 + (s / 2 ^ 4 &&& s / 2 ^ 0 &&& 1)) + (s / 2 ^ 5 &&& s / 2 ^ 1 &&& 1)) + (s / 2 ^ 6 &&& s / 2 ^ 2 &&& 1)) + (s / 2 ^ 7 &&& s / 2 ^ 3 &&& 1)) + (s / 2 ^ 8 &&& s / 2 ^ 0 &&& 1)) + (s / 2 ^ 8 &&& s / 2 ^ 4 &&& 1)) + (s / 2 ^ 9 &&& s / 2 ^ 1 &&& 1)) + (s / 2 ^ 9 &&& s / 2 ^ 5 &&& 1)) + (s / 2 ^ 10 &&& s / 2 ^ 2 &&& 1)) + (s / 2 ^ 10 &&& s / 2 ^ 6 &&& 1)) + (s / 2 ^ 11 &&& s / 2 ^ 3 &&& 1)) + (s / 2 ^ 11 &&& s / 2 ^ 7 &&& 1))
set_option maxRecDepth 100000 in
theorem prE4_eq (s : Nat) : prO s 4 12 = prE4 s := rfl
theorem pp4 {s : Nat} (hs : s < 4096) : popN (s &&& trN s 4) = ((((((((((((0 + (s.testBit 0 && s.testBit 8).toNat) + (s.testBit 1 && s.testBit 9).toNat) + (s.testBit 2 && s.testBit 10).toNat) + (s.testBit 3 && s.testBit 11).toNat) + (s.testBit 4 && s.testBit 0).toNat) + (s.testBit 5 && s.testBit 1).toNat) + (s.testBit 6 && s.testBit 2).toNat) + (s.testBit 7 && s.testBit 3).toNat) + (s.testBit 8 && s.testBit 4).toNat) + (s.testBit 9 && s.testBit 5).toNat) + (s.testBit 10 && s.testBit 6).toNat) + (s.testBit 11 && s.testBit 7).toNat) := pop_pt hs (by decide)
theorem prE4_ok {s : Nat} (hs : s < 4096) : popN (s &&& trN s 4) = prE4 s := by
  rw [pp4 hs]
  unfold prE4
  simp only [an_bit]
  rw [Bool.and_comm (s.testBit 0) (s.testBit 8), Bool.and_comm (s.testBit 1) (s.testBit 9), Bool.and_comm (s.testBit 2) (s.testBit 10), Bool.and_comm (s.testBit 3) (s.testBit 11)]
  omega
def prE5 (s : Nat) : Nat := ((((((((((((0 + (s / 2 ^ 5 &&& s / 2 ^ 0 &&& 1)) + (s / 2 ^ 6 &&& s / 2 ^ 1 &&& 1)) + (s / 2 ^ 7 &&& s / 2 ^ 0 &&& 1)) + (s / 2 ^ 7 &&& s / 2 ^ 2 &&& 1)) + (s / 2 ^ 8 &&& s / 2 ^ 1 &&& 1)) + (s / 2 ^ 8 &&& s / 2 ^ 3 &&& 1)) + (s / 2 ^ 9 &&& s / 2 ^ 2 &&& 1)) + (s / 2 ^ 9 &&& s / 2 ^ 4 &&& 1)) + (s / 2 ^ 10 &&& s / 2 ^ 3 &&& 1)) + (s / 2 ^ 10 &&& s / 2 ^ 5 &&& 1)) + (s / 2 ^ 11 &&& s / 2 ^ 4 &&& 1)) + (s / 2 ^ 11 &&& s / 2 ^ 6 &&& 1))
set_option maxRecDepth 100000 in
theorem prE5_eq (s : Nat) : prO s 5 12 = prE5 s := rfl
theorem pp5 {s : Nat} (hs : s < 4096) : popN (s &&& trN s 5) = ((((((((((((0 + (s.testBit 0 && s.testBit 7).toNat) + (s.testBit 1 && s.testBit 8).toNat) + (s.testBit 2 && s.testBit 9).toNat) + (s.testBit 3 && s.testBit 10).toNat) + (s.testBit 4 && s.testBit 11).toNat) + (s.testBit 5 && s.testBit 0).toNat) + (s.testBit 6 && s.testBit 1).toNat) + (s.testBit 7 && s.testBit 2).toNat) + (s.testBit 8 && s.testBit 3).toNat) + (s.testBit 9 && s.testBit 4).toNat) + (s.testBit 10 && s.testBit 5).toNat) + (s.testBit 11 && s.testBit 6).toNat) := pop_pt hs (by decide)
theorem prE5_ok {s : Nat} (hs : s < 4096) : popN (s &&& trN s 5) = prE5 s := by
  rw [pp5 hs]
  unfold prE5
  simp only [an_bit]
  rw [Bool.and_comm (s.testBit 0) (s.testBit 7), Bool.and_comm (s.testBit 1) (s.testBit 8), Bool.and_comm (s.testBit 2) (s.testBit 9), Bool.and_comm (s.testBit 3) (s.testBit 10), Bool.and_comm (s.testBit 4) (s.testBit 11)]
  omega
def prE6 (s : Nat) : Nat := ((((((0 + (s / 2 ^ 6 &&& s / 2 ^ 0 &&& 1)) + (s / 2 ^ 7 &&& s / 2 ^ 1 &&& 1)) + (s / 2 ^ 8 &&& s / 2 ^ 2 &&& 1)) + (s / 2 ^ 9 &&& s / 2 ^ 3 &&& 1)) + (s / 2 ^ 10 &&& s / 2 ^ 4 &&& 1)) + (s / 2 ^ 11 &&& s / 2 ^ 5 &&& 1))
set_option maxRecDepth 100000 in
theorem prE6_eq (s : Nat) : prO s 6 12 = prE6 s := rfl
theorem pp6 {s : Nat} (hs : s < 4096) : popN (s &&& trN s 6) = ((((((((((((0 + (s.testBit 0 && s.testBit 6).toNat) + (s.testBit 1 && s.testBit 7).toNat) + (s.testBit 2 && s.testBit 8).toNat) + (s.testBit 3 && s.testBit 9).toNat) + (s.testBit 4 && s.testBit 10).toNat) + (s.testBit 5 && s.testBit 11).toNat) + (s.testBit 6 && s.testBit 0).toNat) + (s.testBit 7 && s.testBit 1).toNat) + (s.testBit 8 && s.testBit 2).toNat) + (s.testBit 9 && s.testBit 3).toNat) + (s.testBit 10 && s.testBit 4).toNat) + (s.testBit 11 && s.testBit 5).toNat) := pop_pt hs (by decide)
theorem prE6_ok {s : Nat} (hs : s < 4096) : popN (s &&& trN s 6) / 2 = prE6 s := by
  rw [pp6 hs]
  unfold prE6
  simp only [an_bit]
  rw [Bool.and_comm (s.testBit 0) (s.testBit 6), Bool.and_comm (s.testBit 1) (s.testBit 7), Bool.and_comm (s.testBit 2) (s.testBit 8), Bool.and_comm (s.testBit 3) (s.testBit 9), Bool.and_comm (s.testBit 4) (s.testBit 10), Bool.and_comm (s.testBit 5) (s.testBit 11)]
  omega
theorem pr_6' {s i : Nat} (h : s < 4096) (hi : i = 6) : popN (s &&& trN s i) / 2 = prO s i 12 := by
  subst hi
  rw [prE6_eq]
  exact prE6_ok h
theorem pr_i' {s i : Nat} (h : s < 4096) (h1 : 1 ≤ i) (h2 : i ≤ 6) (h3 : ¬ i = 6) : popN (s &&& trN s i) = prO s i 12 := by
  rcases (show i = 1 ∨ i = 2 ∨ i = 3 ∨ i = 4 ∨ i = 5 by omega) with rfl | rfl | rfl | rfl | rfl
  · rw [prE1_eq]; exact prE1_ok h
  · rw [prE2_eq]; exact prE2_ok h
  · rw [prE3_eq]; exact prE3_ok h
  · rw [prE4_eq]; exact prE4_ok h
  · rw [prE5_eq]; exact prE5_ok h
/-! the different forms -/
theorem fm_0 (a : Nat → Nat) {n i : Nat} (hn : n < 12) : fm a n i = md (((a i : Nat) : Int) - ((a 0 : Nat) : Int) + (n : Int)) := by
  unfold fm fmz fmf
  rw [if_pos (by omega), if_neg (by omega), Nat.mod_eq_of_lt hn]
theorem fm_1 (a : Nat → Nat) {n i : Nat} (hn : n < 12) : fm a (12 + n) i = md (-(((a i : Nat) : Int) - ((a 0 : Nat) : Int)) + (n : Int)) := by
  unfold fm fmz fmf
  rw [if_neg (by omega), if_neg (by omega), show (12 + n) % 12 = n by omega]
theorem fm_2 (a : Nat → Nat) {n i : Nat} (hn : n < 12) : fm a (24 + n) i = md (((a (11 - i) : Nat) : Int) - ((a 0 : Nat) : Int) + (n : Int)) := by
  unfold fm fmz fmf
  rw [if_pos (by omega), if_pos (by omega), show (24 + n) % 12 = n by omega]
theorem fm_3 (a : Nat → Nat) {n i : Nat} (hn : n < 12) : fm a (36 + n) i = md (-(((a (11 - i) : Nat) : Int) - ((a 0 : Nat) : Int)) + (n : Int)) := by
  unfold fm fmz fmf
  rw [if_neg (by omega), if_pos (by omega), show (36 + n) % 12 = n by omega]
abbrev smF (a : Nat → Nat) (c d : Nat) : Prop := ∀ i, i < 12 → fm a c i = fm a d i
theorem cd4 {c : Nat} (h : c < 48) : ∃ n, n < 12 ∧ (c = n ∨ c = 12 + n ∨ c = 24 + n ∨ c = 36 + n) := ⟨c % 12, by omega, by omega⟩
theorem md_in {x y : Int} : md x = md y ↔ (x - y) % 12 = 0 := by unfold md; omega
section DF
variable {a : Nat → Nat}
theorem df_ne (ha : Pm a) : a 1 ≠ a 0 ∧ a 2 ≠ a 0 ∧ a 1 ≠ a 2 ∧ a 0 < 12 ∧ a 1 < 12 ∧ a 2 < 12 :=
  ⟨fun q => absurd (ha.2 1 0 (by decide) (by decide) q) (by decide), fun q => absurd (ha.2 2 0 (by decide) (by decide) q) (by decide), fun q => absurd (ha.2 1 2 (by decide) (by decide) q) (by decide), ha.1 0 (by decide), ha.1 1 (by decide), ha.1 2 (by decide)⟩
/-- forms that run forwards differ -/
theorem df_fw (ha : Pm a) {c d : Nat} (hc : c < 24) (hd : d < 24) (h : smF a c d) : c = d := by
  obtain ⟨n, hn, hcn⟩ := cd4 (show c < 48 by omega)
  obtain ⟨m, hm, hdm⟩ := cd4 (show d < 48 by omega)
  have hne := df_ne ha
  have h0 := h 0 (by decide)
  have h1 := h 1 (by decide)
  have h2 := h 2 (by decide)
  rcases (show c = n ∨ c = 12 + n by omega) with rfl | rfl <;> rcases (show d = m ∨ d = 12 + m by omega) with rfl | rfl
  · rw [fm_0 a hn, fm_0 a hm, md_in] at h0; omega
  · rw [fm_0 a hn, fm_1 a hm, md_in] at h0 h1 h2; omega
  · rw [fm_1 a hn, fm_0 a hm, md_in] at h0 h1 h2; omega
  · rw [fm_1 a hn, fm_1 a hm, md_in] at h0; omega
/-- forms that run backwards differ -/
theorem df_bw (ha : Pm a) {c d : Nat} (hc : 24 ≤ c) (hc2 : c < 48) (hd : 24 ≤ d) (hd2 : d < 48) (h : smF a c d) : c = d := by
  obtain ⟨n, hn, hcn⟩ := cd4 hc2
  obtain ⟨m, hm, hdm⟩ := cd4 hd2
  have hne := df_ne ha
  have h0 := h 11 (by decide)
  have h1 := h 10 (by decide)
  have h2 := h 9 (by decide)
  rcases (show c = 24 + n ∨ c = 36 + n by omega) with rfl | rfl <;> rcases (show d = 24 + m ∨ d = 36 + m by omega) with rfl | rfl
  · rw [fm_2 a hn, fm_2 a hm, md_in] at h0; omega
  · rw [fm_2 a hn, fm_3 a hm, md_in] at h0 h1 h2; simp only [show 11 - 11 = 0 from rfl, show 11 - 10 = 1 from rfl, show 11 - 9 = 2 from rfl] at h0 h1 h2; omega
  · rw [fm_3 a hn, fm_2 a hm, md_in] at h0 h1 h2; simp only [show 11 - 11 = 0 from rfl, show 11 - 10 = 1 from rfl, show 11 - 9 = 2 from rfl] at h0 h1 h2; omega
  · rw [fm_3 a hn, fm_3 a hm, md_in] at h0; omega
/-- one form that runs backwards is PRIME 0: then each is one that runs forwards -/
theorem df_all {m : Nat} (hm : 24 ≤ m) (hm2 : m < 48) (h : smF a m 0) {n : Nat} (hn : 24 ≤ n) (hn2 : n < 48) : ∃ o, o < 24 ∧ smF a o n := by
  obtain ⟨u, hu, hmu⟩ := cd4 hm2
  obtain ⟨v, hv, hnv⟩ := cd4 hn2
  have z0 : (0 : Nat) < 12 := by decide
  rcases (show m = 24 + u ∨ m = 36 + u by omega) with rfl | rfl <;> rcases (show n = 24 + v ∨ n = 36 + v by omega) with rfl | rfl
  · refine ⟨md ((v : Int) - (u : Int)), by have := md_lt ((v : Int) - (u : Int)); omega, fun i hi => ?_⟩
    have h1 := h i hi
    rw [fm_2 a hu, fm_0 a z0, md_in] at h1
    rw [fm_0 a (md_lt _), fm_2 a hv, md_in, md_eq]
    omega
  · refine ⟨12 + md ((v : Int) + (u : Int)), by have := md_lt ((v : Int) + (u : Int)); omega, fun i hi => ?_⟩
    have h1 := h i hi
    rw [fm_2 a hu, fm_0 a z0, md_in] at h1
    rw [fm_1 a (md_lt _), fm_3 a hv, md_in, md_eq]
    omega
  · refine ⟨12 + md ((v : Int) + (u : Int)), by have := md_lt ((v : Int) + (u : Int)); omega, fun i hi => ?_⟩
    have h1 := h i hi
    rw [fm_3 a hu, fm_0 a z0, md_in] at h1
    rw [fm_1 a (md_lt _), fm_2 a hv, md_in, md_eq]
    omega
  · refine ⟨md ((v : Int) - (u : Int)), by have := md_lt ((v : Int) - (u : Int)); omega, fun i hi => ?_⟩
    have h1 := h i hi
    rw [fm_3 a hu, fm_0 a z0, md_in] at h1
    rw [fm_0 a (md_lt _), fm_3 a hv, md_in, md_eq]
    omega
/-- a form that runs backwards is one that runs forwards: then one is PRIME 0 -/
theorem df_some {o n : Nat} (ho : o < 24) (hn : 24 ≤ n) (hn2 : n < 48) (h : smF a o n) : ∃ m, 24 ≤ m ∧ m < 48 ∧ smF a m 0 := by
  obtain ⟨u, hu, hou⟩ := cd4 (show o < 48 by omega)
  obtain ⟨v, hv, hnv⟩ := cd4 hn2
  have z0 : (0 : Nat) < 12 := by decide
  rcases (show u = o ∨ o = 12 + u by omega) with rfl | rfl <;> rcases (show n = 24 + v ∨ n = 36 + v by omega) with rfl | rfl
  · refine ⟨24 + md ((v : Int) - (u : Int)), by omega, by have := md_lt ((v : Int) - (u : Int)); omega, fun i hi => ?_⟩
    have h1 := h i hi
    rw [fm_0 a hu, fm_2 a hv, md_in] at h1
    rw [fm_2 a (md_lt _), fm_0 a z0, md_in, md_eq]
    omega
  · refine ⟨36 + md ((v : Int) - (u : Int)), by omega, by have := md_lt ((v : Int) - (u : Int)); omega, fun i hi => ?_⟩
    have h1 := h i hi
    rw [fm_0 a hu, fm_3 a hv, md_in] at h1
    rw [fm_3 a (md_lt _), fm_0 a z0, md_in, md_eq]
    omega
  · refine ⟨36 + md ((u : Int) - (v : Int)), by omega, by have := md_lt ((u : Int) - (v : Int)); omega, fun i hi => ?_⟩
    have h1 := h i hi
    rw [fm_1 a hu, fm_2 a hv, md_in] at h1
    rw [fm_3 a (md_lt _), fm_0 a z0, md_in, md_eq]
    omega
  · refine ⟨24 + md ((u : Int) - (v : Int)), by omega, by have := md_lt ((u : Int) - (v : Int)); omega, fun i hi => ?_⟩
    have h1 := h i hi
    rw [fm_1 a hu, fm_3 a hv, md_in] at h1
    rw [fm_2 a (md_lt _), fm_0 a z0, md_in, md_eq]
    omega
theorem eqB_iff {c d : Nat} : alN (eqB a c d) 12 = true ↔ smF a c d := by
  rw [al_iff]
  exact ⟨fun h i hi => of_decide_eq_true (h i hi), fun h i hi => decide_eq_true (h i hi)⟩
theorem nw_iff {n : Nat} : alN (nwB a n) n = true ↔ ∀ o, o < n → ¬ smF a o n := by
  rw [al_iff]
  constructor
  · intro h o ho q
    have h1 := h o ho
    unfold nwB at h1
    rw [eqB_iff.mpr q] at h1
    cases h1
  · intro h o ho
    unfold nwB
    cases h2 : alN (eqB a o n) 12
    · rfl
    · exact absurd (eqB_iff.mp h2) (h o ho)
theorem df_lo (ha : Pm a) : ∀ n, n ≤ 24 → dfN a n = n
  | 0, _ => rfl
  | n + 1, hn => by
    show (if _ then _ else _) = _
    rw [if_pos (nw_iff.mpr fun o ho q => by have := df_fw ha (by omega) (by omega) q; omega), df_lo ha n (by omega)]
theorem df_24' (ha : Pm a) {m : Nat} (hm : 24 ≤ m) (hm2 : m < 48) (h : smF a m 0) : ∀ k, k ≤ 24 → dfN a (24 + k) = 24
  | 0, _ => df_lo ha 24 (Nat.le_refl _)
  | k + 1, hk => by
    have he : Nat.add 24 k = 24 + k := rfl
    show (if _ then dfN a (24 + k) + 1 else dfN a (24 + k)) = _
    rw [if_neg, df_24' ha hm hm2 h k (by omega)]
    intro q
    obtain ⟨o, h1, h2⟩ := df_all hm hm2 h (show 24 ≤ 24 + k by omega) (by omega)
    exact nw_iff.mp q o (by omega) h2
theorem df_48' (ha : Pm a) (h : ∀ m, 24 ≤ m → m < 48 → ¬ smF a m 0) : ∀ k, k ≤ 24 → dfN a (24 + k) = 24 + k
  | 0, _ => df_lo ha 24 (Nat.le_refl _)
  | k + 1, hk => by
    have he : Nat.add 24 k = 24 + k := rfl
    show (if _ then dfN a (24 + k) + 1 else dfN a (24 + k)) = _
    rw [if_pos, df_48' ha h k (by omega)]
    · rfl
    · refine nw_iff.mpr fun o ho q => ?_
      by_cases ho2 : o < 24
      · obtain ⟨m, h1, h2, h3⟩ := df_some ho2 (show 24 ≤ 24 + k by omega) (by omega) q
        exact h m h1 h2 h3
      · have := df_bw ha (by omega) (by omega) (show 24 ≤ 24 + k by omega) (by omega) q
        omega
end DF
theorem sm_pk {a : Nat → Nat} {c d : Nat} : pk (fm a c) = pk (fm a d) ↔ smF a c d := pk_eqv (fm_lt12 a c) (fm_lt12 a d)
/-! segments that stay together -/
section CK
variable {a f : Nat → Nat}
theorem plc_ent (ha : lt12 a) (hf : Pm f) : ∀ n, n ≤ 12 → ∀ j, j < 16 → ent (plcN (pk a) (pk f) n) j = if j < n then pn (pk f) (a j) else 0
  | 0, _, j, _ => ent_0 j
  | n + 1, hn, j, hj => by
    have ih := plc_ent ha hf n (by omega) j hj
    have hp := pn_lt (pk f) (ent (pk a) n)
    show ent (we (plcN (pk a) (pk f) n) n (pn (pk f) (ent (pk a) n))) j = _
    rw [ent_we _ (by omega) (by omega) hj, ih, ent_pk ha (by omega)]
    by_cases h1 : j = n
    · rw [if_pos h1, if_pos (by omega), h1]
    · rw [if_neg h1]
      by_cases h2 : j < n
      · rw [if_pos h2, if_pos (by omega)]
      · rw [if_neg h2, if_neg (by omega)]
/-- where the form has the row's tone -/
abbrev pl (a f : Nat → Nat) (i : Nat) : Nat := pn (pk f) (a i)
theorem pl_f (ha : lt12 a) (hf : Pm f) {i : Nat} (hi : i < 12) : f (pl a f i) = a i := pn_pk hf (ha i hi)
theorem pl_inj (ha : Pm a) (hf : Pm f) {i j : Nat} (hi : i < 12) (hj : j < 12) (h : pl a f i = pl a f j) : i = j := ha.2 i j hi hj (by rw [← pl_f ha.1 hf hi, ← pl_f ha.1 hf hj, h])
theorem lo_le (x : Int64) (p : Nat) : ∀ n i, i < n → loN x p n ≤ ent x (p + i)
  | 0, i, h => absurd h (Nat.not_lt_zero _)
  | n + 1, i, h => by
    rcases (show i < n ∨ i = n by omega) with h1 | rfl
    · exact Nat.le_trans (Nat.min_le_left _ _) (lo_le x p n i h1)
    · exact Nat.min_le_right _ _
theorem lo_at (x : Int64) (p : Nat) : ∀ n, loN x p n = 12 ∨ ∃ i, i < n ∧ loN x p n = ent x (p + i)
  | 0 => Or.inl rfl
  | n + 1 => by
    have e : loN x p (n + 1) = min (loN x p n) (ent x (p + n)) := rfl
    rcases (show min (loN x p n) (ent x (p + n)) = loN x p n ∨ min (loN x p n) (ent x (p + n)) = ent x (p + n) by omega) with h | h
    · rcases lo_at x p n with h1 | ⟨i, h1, h2⟩
      · exact Or.inl (by omega)
      · exact Or.inr ⟨i, by omega, by omega⟩
    · exact Or.inr ⟨n, by omega, by omega⟩
theorem hi_ge (x : Int64) (p : Nat) : ∀ n i, i < n → ((ent x (p + i) : Nat) : Int) ≤ hiN x p n
  | 0, i, h => absurd h (Nat.not_lt_zero _)
  | n + 1, i, h => by
    have e : hiN x p (n + 1) = max (hiN x p n) ((ent x (p + n) : Nat) : Int) := rfl
    rcases (show i < n ∨ i = n by omega) with h1 | rfl
    · have := hi_ge x p n i h1; omega
    · omega
theorem hi_at (x : Int64) (p : Nat) : ∀ n, hiN x p n = -1 ∨ ∃ i, i < n ∧ hiN x p n = ((ent x (p + i) : Nat) : Int)
  | 0 => Or.inl rfl
  | n + 1 => by
    have e : hiN x p (n + 1) = max (hiN x p n) ((ent x (p + n) : Nat) : Int) := rfl
    rcases (show max (hiN x p n) ((ent x (p + n) : Nat) : Int) = hiN x p n ∨ max (hiN x p n) ((ent x (p + n) : Nat) : Int) = ((ent x (p + n) : Nat) : Int) by omega) with h | h
    · rcases hi_at x p n with h1 | ⟨i, h1, h2⟩
      · exact Or.inl (by omega)
      · exact Or.inr ⟨i, by omega, by omega⟩
    · exact Or.inr ⟨n, by omega, by omega⟩
theorem set_in {g : Nat → Nat} {p n t : Nat} : (setF g p n).testBit t = true ↔ ∃ i, i < n ∧ g (p + i) = t := by
  rw [setF_bit, or_iff]
  exact ⟨fun ⟨i, h1, h2⟩ => ⟨i, h1, of_decide_eq_true h2⟩, fun ⟨i, h1, h2⟩ => ⟨i, h1, decide_eq_true h2⟩⟩
theorem nb_iff (ha : Pm a) (hf : Pm f) {p k : Nat} (hk : 1 ≤ k) (hp : p + k ≤ 12) : nbr (plcN (pk a) (pk f) 12) p k ↔ ∃ o, o + k ≤ 12 ∧ setF f o k = setF a p k := by
  have hE : ∀ i, i < k → ent (plcN (pk a) (pk f) 12) (p + i) = pl a f (p + i) := fun i hi => by
    rw [plc_ent ha.1 hf 12 (Nat.le_refl _) _ (by omega), if_pos (by omega)]
  have hlt : ∀ i, i < k → pl a f (p + i) < 12 := fun i hi => pn_lt _ _
  have inj : ∀ i j, i < k → j < k → pl a f (p + i) = pl a f (p + j) → i = j := fun i j hi hj h => by
    have := pl_inj ha hf (show p + i < 12 by omega) (show p + j < 12 by omega) h
    omega
  have e0 := hE 0 (by omega)
  have h0 := hlt 0 (by omega)
  -- the least and the greatest
  have hl0 := lo_le (plcN (pk a) (pk f) 12) p k 0 (by omega)
  have hh0 := hi_ge (plcN (pk a) (pk f) 12) p k 0 (by omega)
  obtain ⟨il, hil, hle⟩ : ∃ i, i < k ∧ loN (plcN (pk a) (pk f) 12) p k = pl a f (p + i) := by
    rcases lo_at (plcN (pk a) (pk f) 12) p k with h | ⟨i, h1, h2⟩
    · omega
    · exact ⟨i, h1, by rw [h2, hE i h1]⟩
  obtain ⟨ih, hih, hhe⟩ : ∃ i, i < k ∧ hiN (plcN (pk a) (pk f) 12) p k = ((pl a f (p + i) : Nat) : Int) := by
    rcases hi_at (plcN (pk a) (pk f) 12) p k with h | ⟨i, h1, h2⟩
    · omega
    · exact ⟨i, h1, by rw [h2, hE i h1]⟩
  have hmin : ∀ i, i < k → pl a f (p + il) ≤ pl a f (p + i) := fun i hi => by
    have := lo_le (plcN (pk a) (pk f) 12) p k i hi
    rw [hle, hE i hi] at this
    exact this
  have hmax : ∀ i, i < k → pl a f (p + i) ≤ pl a f (p + ih) := fun i hi => by
    have := hi_ge (plcN (pk a) (pk f) 12) p k i hi
    rw [hhe, hE i hi] at this
    omega
  -- at least k places between them
  have hwide : k ≤ pl a f (p + ih) - pl a f (p + il) + 1 := fb_holes _ k (fun i => pl a f (p + i) - pl a f (p + il)) (fun i hi => by
      have h1 := hmin i hi
      have h2 := hmax i hi
      show pl a f (p + i) - pl a f (p + il) < _
      omega) (fun i j hi hj q => by
      have h1 := hmin i hi
      have h2 := hmin j hj
      have q : pl a f (p + i) - pl a f (p + il) = pl a f (p + j) - pl a f (p + il) := q
      exact inj i j hi hj (by omega))
  have hlh := hmax il hil
  have hhi := hlt ih hih
  unfold nbr
  rw [hle, hhe]
  constructor
  · intro h
    refine ⟨pl a f (p + il), by omega, ?_⟩
    -- every place between is met
    have onto : ∀ j, j < k → ∃ i, i < k ∧ pl a f (p + i) = pl a f (p + il) + j := fun j hj => by
      by_cases hx : ∃ i, i < k ∧ pl a f (p + i) = pl a f (p + il) + j
      · exact hx
      · exfalso
        have key := fb_holes k (k + 1) (fun i => if i = k then j else pl a f (p + i) - pl a f (p + il)) (fun i hi => by
            show (if i = k then j else pl a f (p + i) - pl a f (p + il)) < k
            split
            · exact hj
            · have h1 := hmin i (by omega)
              have h2 := hmax i (by omega)
              omega) (fun i i2 hi hi2 q => by
            have q : (if i = k then j else pl a f (p + i) - pl a f (p + il)) = (if i2 = k then j else pl a f (p + i2) - pl a f (p + il)) := q
            by_cases c1 : i = k <;> by_cases c2 : i2 = k
            · omega
            · rw [if_pos c1, if_neg c2] at q
              have h1 := hmin i2 (by omega)
              exact absurd ⟨i2, by omega, by omega⟩ hx
            · rw [if_neg c1, if_pos c2] at q
              have h1 := hmin i (by omega)
              exact absurd ⟨i, by omega, by omega⟩ hx
            · rw [if_neg c1, if_neg c2] at q
              have h1 := hmin i (by omega)
              have h2 := hmin i2 (by omega)
              exact inj i i2 (by omega) (by omega) (by omega))
        omega
    apply Nat.eq_of_testBit_eq
    intro t
    have e : (setF f (pl a f (p + il)) k).testBit t = true ↔ (setF a p k).testBit t = true := by
      rw [set_in, set_in]
      constructor
      · rintro ⟨j, hj, h1⟩
        obtain ⟨i, hi, h2⟩ := onto j hj
        exact ⟨i, hi, by rw [← h1, ← h2, pl_f ha.1 hf (by omega)]⟩
      · rintro ⟨i, hi, h1⟩
        have h2 := hmin i hi
        have h3 := hmax i hi
        exact ⟨pl a f (p + i) - pl a f (p + il), by omega, by rw [show pl a f (p + il) + (pl a f (p + i) - pl a f (p + il)) = pl a f (p + i) by omega, pl_f ha.1 hf (by omega), h1]⟩
    cases h1 : (setF f (pl a f (p + il)) k).testBit t <;> cases h2 : (setF a p k).testBit t
    · rfl
    · rw [h1, h2] at e; exact absurd (e.mpr rfl) (by decide)
    · rw [h1, h2] at e; exact absurd (e.mp rfl) (by decide)
    · rfl
  · rintro ⟨o, ho, hs⟩
    have hin : ∀ i, i < k → o ≤ pl a f (p + i) ∧ pl a f (p + i) < o + k := fun i hi => by
      have h1 : (setF a p k).testBit (a (p + i)) = true := set_in.mpr ⟨i, hi, rfl⟩
      rw [← hs] at h1
      obtain ⟨j, hj, h2⟩ := set_in.mp h1
      have h3 : pl a f (p + i) = o + j := pn_uq hf (ha.1 _ (by omega)) (by omega) h2
      omega
    have h1 := hin il hil
    have h2 := hin ih hih
    omega
theorem kp_iff {a : Nat → Nat} (ha : lt12 a) {code k p : Nat} (hk : 1 ≤ k) (hk2 : k ≤ 12) (hp : p + k ≤ 12) : orN (kpB a code k p) (13 - k) = true ↔ ∃ o, o + k ≤ 12 ∧ setF (fm a code) o k = setF a p k := by
  have e : setF (fm a (a 0)) p k = setF a p k := setF_cg fun i hi => fm_self ha (by omega)
  rw [or_iff]
  constructor
  · rintro ⟨o, h1, h2⟩
    exact ⟨o, by omega, by rw [← e]; exact of_decide_eq_true h2⟩
  · rintro ⟨o, h1, h2⟩
    exact ⟨o, by omega, decide_eq_true (by rw [e]; exact h2)⟩
theorem ck_sk' (ha : Pm a) {code k : Nat} (hc : code < 48) (h1 : 1 ≤ k) (h2 : k ≤ 12) : ∀ n, n ≤ 13 - k → ckN (plcN (pk a) (pk (fm a code)) 12) k n = skN a code k n
  | 0, _ => rfl
  | n + 1, hn => by
    have ih := ck_sk' ha hc h1 h2 n (by omega)
    have e : nbr (plcN (pk a) (pk (fm a code)) 12) n k ↔ orN (kpB a code k n) (13 - k) = true := (nb_iff ha (fm_Pm ha hc) h1 (by omega)).trans (kp_iff ha.1 h1 h2 (by omega)).symm
    show (if _ then _ else _) = (if _ then _ else _)
    by_cases h : nbr (plcN (pk a) (pk (fm a code)) 12) n k
    · rw [if_pos h, if_pos (e.mp h), ih]
    · rw [if_neg h, if_neg (fun q => h (e.mpr q)), ih]
end CK
/-! the phrase at the beginning of a row -/
section CP
variable {a q K : Nat → Nat} {w : Nat}
abbrev cpOk (a q K : Nat → Nat) (w n : Nat) : Prop :=
  (∀ i, i < cpC q a w n → cpK q a K w n i < 12) ∧ (∀ i j, i < cpC q a w n → j < cpC q a w n → cpK q a K w n i = cpK q a K w n j → i = j) ∧ (∀ i, i < cpC q a w n → (∃ j, j < w ∧ cpK q a K w n i = q j) ∨ ∃ j, j < n ∧ cpK q a K w n i = a j) ∧ (∀ j, j < n → ∃ i, i < cpC q a w n ∧ cpK q a K w n i = a j) ∧ ∀ i, i < w → i < cpC q a w n ∧ cpK q a K w n i = q i
theorem cp_ok (ha : Pm a) (hq : ∀ i, i < w → q i < 12) (hqd : ∀ i j, i < w → j < w → q i = q j → i = j) : ∀ n, n ≤ 12 → cpOk a q K w n
  | 0, _ => by
    have e : ∀ i, i < w → cpK q a K w 0 i = q i := fun i hi => mx_in hi
    have ec : cpC q a w 0 = w := rfl
    refine ⟨fun i hi => ?_, fun i j hi hj h => ?_, fun i hi => Or.inl ⟨i, hi, e i hi⟩, fun j hj => absurd hj (Nat.not_lt_zero _), fun i hi => ⟨hi, e i hi⟩⟩
    · rw [e i hi]; exact hq i hi
    · rw [e i hi, e j hj] at h; exact hqd i j hi hj h
  | n + 1, hn => by
    obtain ⟨h1, h2, h3, h4, h5⟩ := cp_ok ha hq hqd n (by omega)
    by_cases c : orN (wtB q (a n)) w = true
    · have eK : cpK q a K w (n + 1) = cpK q a K w n := if_pos c
      have eC : cpC q a w (n + 1) = cpC q a w n := if_pos c
      unfold cpOk
      rw [eK, eC]
      refine ⟨h1, h2, fun i hi => ?_, fun j hj => ?_, h5⟩
      · rcases h3 i hi with h | ⟨j, hj, h⟩
        · exact Or.inl h
        · exact Or.inr ⟨j, by omega, h⟩
      · rcases (show j < n ∨ j = n by omega) with h | rfl
        · exact h4 j h
        · obtain ⟨i, hi, h⟩ := or_iff.mp c
          have h := of_decide_eq_true h
          exact ⟨i, (h5 i hi).1, (h5 i hi).2.trans h⟩
    · have eK : cpK q a K w (n + 1) = upq (cpK q a K w n) (cpC q a w n) (a n) := if_neg c
      have eC : cpC q a w (n + 1) = cpC q a w n + 1 := if_neg c
      have hlt : ∀ i, i < cpC q a w n → upq (cpK q a K w n) (cpC q a w n) (a n) i = cpK q a K w n i := fun i hi => if_neg (by omega)
      have hat : upq (cpK q a K w n) (cpC q a w n) (a n) (cpC q a w n) = a n := if_pos rfl
      have hnew : ∀ i, i < cpC q a w n → cpK q a K w n i ≠ a n := fun i hi h => by
        rcases h3 i hi with ⟨j, hj, h6⟩ | ⟨j, hj, h6⟩
        · exact c (or_iff.mpr ⟨j, hj, decide_eq_true (h6.symm.trans h)⟩)
        · have := ha.2 j n (by omega) (by omega) (h6.symm.trans h)
          omega
      unfold cpOk
      rw [eK, eC]
      refine ⟨fun i hi => ?_, fun i j hi hj h => ?_, fun i hi => ?_, fun j hj => ?_, fun i hi => ?_⟩
      · rcases (show i < cpC q a w n ∨ i = cpC q a w n by omega) with h | rfl
        · rw [hlt i h]; exact h1 i h
        · rw [hat]; exact ha.1 n (by omega)
      · rcases (show i < cpC q a w n ∨ i = cpC q a w n by omega) with h6 | rfl <;> rcases (show j < cpC q a w n ∨ j = cpC q a w n by omega) with h7 | rfl
        · rw [hlt i h6, hlt j h7] at h; exact h2 i j h6 h7 h
        · rw [hlt i h6, hat] at h; exact absurd h (hnew i h6)
        · rw [hat, hlt j h7] at h; exact absurd h.symm (hnew j h7)
        · rfl
      · rcases (show i < cpC q a w n ∨ i = cpC q a w n by omega) with h | rfl
        · rw [hlt i h]
          rcases h3 i h with h6 | ⟨j, hj, h6⟩
          · exact Or.inl h6
          · exact Or.inr ⟨j, by omega, h6⟩
        · exact Or.inr ⟨n, by omega, hat⟩
      · rcases (show j < n ∨ j = n by omega) with h | rfl
        · obtain ⟨i, hi, h6⟩ := h4 j h
          exact ⟨i, by omega, by rw [hlt i hi]; exact h6⟩
        · exact ⟨cpC q a w j, by omega, hat⟩
      · obtain ⟨h6, h7⟩ := h5 i hi
        exact ⟨by omega, by rw [hlt i h6]; exact h7⟩
theorem cpC_12' (ha : Pm a) (hq : ∀ i, i < w → q i < 12) (hqd : ∀ i j, i < w → j < w → q i = q j → i = j) {n : Nat} (hn : n < 12) (h : ¬ orN (wtB q (a n)) w = true) : cpC q a w n < 12 := by
  obtain ⟨h1, h2, -⟩ := cp_ok (K := fun _ => 0) ha hq hqd (n + 1) (by omega)
  have eC : cpC q a w (n + 1) = cpC q a w n + 1 := if_neg h
  have := fb_holes 12 _ _ h1 h2
  omega
theorem cpC_end (ha : Pm a) (hq : ∀ i, i < w → q i < 12) (hqd : ∀ i j, i < w → j < w → q i = q j → i = j) : cpC q a w 12 = 12 := by
  obtain ⟨h1, h2, h3, h4, h5⟩ := cp_ok (K := fun _ => 0) ha hq hqd 12 (Nat.le_refl _)
  have k1 := fb_holes 12 _ _ h1 h2
  have hch : ∃ g : Nat → Nat, ∀ j, j < 12 → g j < cpC q a w 12 ∧ cpK q a (fun _ => 0) w 12 (g j) = a j := by
    have : ∀ j, ∃ i, j < 12 → i < cpC q a w 12 ∧ cpK q a (fun _ => 0) w 12 i = a j := fun j => by
      by_cases hj : j < 12
      · obtain ⟨i, h6, h7⟩ := h4 j hj
        exact ⟨i, fun _ => ⟨h6, h7⟩⟩
      · exact ⟨0, fun h => absurd h hj⟩
    exact ⟨fun j => Classical.choose (this j), fun j hj => Classical.choose_spec (this j) hj⟩
  obtain ⟨g, hg⟩ := hch
  have k2 := fb_holes (cpC q a w 12) 12 g (fun i hi => (hg i hi).1) (fun i j hi hj h => ha.2 i j hi hj (by rw [← (hg i hi).2, ← (hg j hj).2, h]))
  omega
/-- what lay there before is written over -/
theorem cp_K (K K' : Nat → Nat) : ∀ n i, i < cpC q a w n → cpK q a K w n i = cpK q a K' w n i
  | 0, i, hi => (mx_in hi).trans (mx_in hi).symm
  | n + 1, i, hi => by
    by_cases c : orN (wtB q (a n)) w = true
    · have eC : cpC q a w (n + 1) = cpC q a w n := if_pos c
      rw [show cpK q a K w (n + 1) = cpK q a K w n from if_pos c, show cpK q a K' w (n + 1) = cpK q a K' w n from if_pos c]
      exact cp_K K K' n i (by omega)
    · have eC : cpC q a w (n + 1) = cpC q a w n + 1 := if_neg c
      rw [show cpK q a K w (n + 1) = upq (cpK q a K w n) (cpC q a w n) (a n) from if_neg c, show cpK q a K' w (n + 1) = upq (cpK q a K' w n) (cpC q a w n) (a n) from if_neg c]
      by_cases h : i = cpC q a w n
      · unfold upq; rw [if_pos h, if_pos h]
      · unfold upq; rw [if_neg h, if_neg h]; exact cp_K K K' n i (by omega)
end CP
