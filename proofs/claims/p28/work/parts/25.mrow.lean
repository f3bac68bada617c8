/-! ===== what a row keeps to ===== -/
section MROW
variable {a : Nat → Nat} {x n : Nat}
theorem rs_A (ha : Pm a) (hx : x < 12) (hn : n < 12) : (fm a (12 * 0 + x) n + fm a (12 * 1 + x) n) % 12 = 2 * x % 12 := by
  have h1 := ha.1 n hn
  have h0 := ha.1 0 (by decide)
  rw [show 12 * 0 + x = x by omega, show 12 * 1 + x = 12 + x by omega, fm_0 a hx, fm_1 a hx]
  unfold md
  omega
theorem rs_B (hx : x < 12) (hn : n < 12) : fm a (12 * 2 + x) (11 - n) = fm a (12 * 0 + x) n := by
  rw [show 12 * 0 + x = x by omega, show 12 * 2 + x = 24 + x by omega, fm_0 a hx, fm_2 a hx, show 11 - (11 - n) = n by omega]
theorem rs_C (hx : x < 12) (hn : n < 12) : fm a (12 * 3 + x) (11 - n) = fm a (12 * 1 + x) n := by
  rw [show 12 * 1 + x = 12 + x by omega, show 12 * 3 + x = 36 + x by omega, fm_1 a hx, fm_3 a hx, show 11 - (11 - n) = n by omega]
theorem rs_D (ha : Pm a) (hn : n < 12) : fm a (12 * 0 + a 0) n = a n := by
  rw [show 12 * 0 + a 0 = a 0 by omega]
  exact fm_self ha.1 hn
theorem rs_E (ha : Pm a) (hn : n < 12) : fm a (12 * 0 + fm a (12 * 1 + a 0) 0) n = a n := by
  have h1 := ha.1 n hn
  have h0 := ha.1 0 (by decide)
  rw [mat_fm ha.1 (by decide) hn]
  unfold md
  omega
theorem rs_F (ha : Pm a) (hn : n < 12) : fm a (12 * 0 + fm a (12 * 1 + a 0) n) n = a 0 := by
  have h1 := ha.1 n hn
  have h0 := ha.1 0 (by decide)
  rw [mat_fm ha.1 hn hn]
  unfold md
  omega
theorem rs_G (ha : Pm a) (hx : x < 12) (hn : n < 12) : (fm a (12 * 0 + fm a (12 * 1 + a 0) x) n + fm a (12 * 0 + fm a (12 * 1 + a 0) n) x) % 12 = 2 * a 0 % 12 := by
  have h1 := ha.1 n hn
  have h2 := ha.1 x hx
  have h0 := ha.1 0 (by decide)
  rw [mat_fm ha.1 hx hn, mat_fm ha.1 hn hx]
  unfold md
  omega
theorem rs_H (ha : Pm a) (hn : n < 11) : (a n + md (((a (n + 1) : Nat) : Int) - ((a n : Nat) : Int))) % 12 = a (n + 1) := by
  have h1 := ha.1 n (by omega)
  have h2 := ha.1 (n + 1) (by omega)
  unfold md
  omega
theorem rs_I (ha : Pm a) (hn : n < 12) : setF (fm a (a 0)) 0 (n + 1) = setF a 0 (n + 1) := setF_cg (fun i hi => fm_self ha.1 (by omega))
theorem rs_s (f : Nat → Nat) (n : Nat) : setF f 0 n ||| 2 ^ f n = setF f 0 (n + 1) := by
  show _ = setF f 0 n ||| 2 ^ f (0 + n)
  rw [Nat.zero_add]
theorem rs_all (ha : Pm a) (h : n = 12) : setF a 0 n = 4095 := by
  subst h
  apply Nat.eq_of_testBit_eq
  intro t
  rw [show (4095 : Nat) = 2 ^ 12 - 1 from rfl, Nat.testBit_two_pow_sub_one]
  apply Bool.eq_iff_iff.mpr
  rw [set_in, decide_eq_true_eq]
  constructor
  · rintro ⟨i, hi, rfl⟩
    rw [Nat.zero_add]
    exact ha.1 i hi
  · intro ht
    obtain ⟨i, hi, h⟩ := Pm_onto ha ht
    exact ⟨i, hi, by rw [Nat.zero_add]; exact h⟩
theorem rs_lt (ha : Pm a) (h : n ≤ 12) : setF a 0 n < 4096 := by
  rw [← setF_cg (f := fm a (a 0)) (g := a) (p := 0) (n := n) (fun i hi => fm_self ha.1 (by omega))]
  exact setF_lt (fm_lt a (a 0)) 0 n
theorem rs_df (ha : Pm a) : dfN a 48 = 48 ∨ dfN a 48 = 24 := by
  by_cases h : ∃ m, 24 ≤ m ∧ m < 48 ∧ smF a m 0
  · obtain ⟨m, h1, h2, h3⟩ := h
    exact Or.inr (df_24' ha h1 h2 h3 24 (Nat.le_refl _))
  · exact Or.inl (df_48' ha (fun m h1 h2 h3 => h ⟨m, h1, h2, h3⟩) 24 (Nat.le_refl _))
set_option maxRecDepth 100000 in
theorem ls_one : ∀ t, t < 12 → lsN (2 ^ t) 12 = 1 := by decide +kernel
theorem setF_1 (f : Nat → Nat) (p : Nat) : setF f p 1 = 2 ^ f p := by
  show 0 ||| 2 ^ f (p + 0) = _
  rw [Nat.zero_or, Nat.add_zero]
theorem rs_d1 : alN (deB a 1) 12 = true := al_of fun m _ => decide_eq_true (by
  rw [setF_1, setF_1, ls_one _ (fm_lt _ _ _), ls_one _ (fm_lt _ _ _)])
theorem rs_d12 : alN (deB a 12) 1 = true := al_of fun m hm => decide_eq_true (by
  rw [show m = 0 by omega])
/-! longs as sets of codes -/
theorem uN_bitL {k : Nat} (hk : k < 64) : uN (bitL k) = 2 ^ k := by
  unfold bitL
  rw [iI_nat, uN_slk _ hk, show uN (1 : Int64) = 1 from by decide, Nat.one_mul]
  exact Nat.mod_eq_of_lt (Nat.pow_lt_pow_right (n := 64) (by decide) hk)
theorem bitL_b {k t : Nat} (hk : k < 64) : (uN (bitL k)).testBit t = decide (k = t) := by
  rw [uN_bitL hk, Nat.testBit_two_pow]
theorem uN_0 : uN (0 : Int64) = 0 := by decide
theorem cm_bit (t : Nat) : ∀ n, n ≤ 48 → (uN (cmL a n)).testBit t = decide (t < n ∧ setF (fm a (a 0)) 0 6 &&& setF (fm a t) 0 6 = 0)
  | 0, _ => by
    show (uN (0 : Int64)).testBit t = _
    rw [uN_0]
    simp
  | n + 1, hn => by
    have ih := cm_bit t n (by omega)
    have e : (uN (cmL a (n + 1))).testBit t = ((uN (cmL a n)).testBit t || (decide (n = t) && decide (setF (fm a (a 0)) 0 6 &&& setF (fm a n) 0 6 = 0))) := by
      by_cases h : setF (fm a (a 0)) 0 6 &&& setF (fm a n) 0 6 = 0
      · rw [show cmL a (n + 1) = cmL a n ||| bitL n from if_pos h, uN_or, Nat.testBit_or, bitL_b (by omega)]
        simp [h]
      · rw [show cmL a (n + 1) = cmL a n ||| 0 from if_neg h, or0L]
        simp [h]
    rw [e, ih]
    by_cases h1 : n = t
    · subst h1
      simp
    · simp only [h1, decide_false, Bool.false_and, Bool.or_false]
      exact decide_eq_decide.mpr ⟨fun h => ⟨by omega, h.2⟩, fun h => ⟨by omega, h.2⟩⟩
theorem fp_bit (a q : Nat → Nat) (w t : Nat) : ∀ n, n ≤ 48 → (uN (fpL a q w n)).testBit t = decide (t < n ∧ ¬ plF a q t w = -1)
  | 0, _ => by
    show (uN (0 : Int64)).testBit t = _
    rw [uN_0]
    simp
  | n + 1, hn => by
    have ih := fp_bit a q w t n (by omega)
    have e : (uN (fpL a q w (n + 1))).testBit t = ((uN (fpL a q w n)).testBit t || (decide (n = t) && decide (¬ plF a q n w = -1))) := by
      by_cases h : plF a q n w = -1
      · rw [show fpL a q w (n + 1) = fpL a q w n ||| 0 from if_pos h, or0L]
        simp [h]
      · rw [show fpL a q w (n + 1) = fpL a q w n ||| bitL n from if_neg h, uN_or, Nat.testBit_or, bitL_b (by omega)]
        simp [h]
    rw [e, ih]
    by_cases h1 : n = t
    · subst h1
      simp
    · simp only [h1, decide_false, Bool.false_and, Bool.or_false]
      exact decide_eq_decide.mpr ⟨fun h => ⟨by omega, h.2⟩, fun h => ⟨by omega, h.2⟩⟩
theorem b48_lt {z : Nat} (h : ∀ t, 48 ≤ t → z.testBit t = false) : z < 2 ^ 48 := Nat.lt_pow_two_of_testBit z h
theorem cm_lt (a : Nat → Nat) : uN (cmL a 48) < 2 ^ 48 := b48_lt fun t ht => by
  rw [cm_bit t 48 (Nat.le_refl _)]
  exact decide_eq_false (by omega)
theorem fp_lt (a q : Nat → Nat) (w : Nat) : uN (fpL a q w 48) < 2 ^ 48 := b48_lt fun t ht => by
  rw [fp_bit a q w t 48 (Nat.le_refl _)]
  exact decide_eq_false (by omega)
theorem uN_sark {y : Int64} {k : Nat} (hk : k < 64) (hy : uN y < 2 ^ 48) : uN (y >>> ((iI ((k : Nat) : Int)).toInt64 &&& 63)) = uN y / 2 ^ k := by
  rw [iI_nat]
  show (y.toBitVec.sshiftRight (((nI k).toInt64 &&& 63).toBitVec.smod 64).toNat).toNat = _
  rw [nx_sll k hk, BitVec.sshiftRight_eq_of_msb_false, BitVec.toNat_ushiftRight, Nat.shiftRight_eq_div_pow]
  · rfl
  · rw [BitVec.msb_eq_false_iff_two_mul_lt]
    have h1 : y.toBitVec.toNat = uN y := rfl
    omega
theorem ls_bit {y : Int64} {k : Nat} (hk : k < 64) (hy : uN y < 2 ^ 48) : (y >>> ((iI ((k : Nat) : Int)).toInt64 &&& 63)) &&& (1 : Int64) = if (uN y).testBit k then 1 else 0 := by
  apply uN_inj
  rw [uN_and, uN_sark hk hy, show uN (1 : Int64) = 1 from by decide, tb_1]
  split <;> decide
theorem ls_48 {y : Int64} (hy : uN y < 2 ^ 48) : y >>> ((iI 48).toInt64 &&& 63) = 0 := by
  apply uN_inj
  rw [show (48 : Int) = ((48 : Nat) : Int) from rfl, uN_sark (by decide) hy, uN_0]
  exact Nat.div_eq_of_lt hy
theorem rs_cm (ha : Pm a) : (cmL a 48 >>> ((iI ((a 0 : Nat) : Int)).toInt64 &&& 63)) &&& (1 : Int64) = 0 := by
  have h0 := ha.1 0 (by decide)
  rw [ls_bit (by omega) (cm_lt a), cm_bit _ 48 (Nat.le_refl _)]
  refine if_neg (fun h => ?_)
  have h2 := (of_decide_eq_true h).2
  rw [Nat.and_self] at h2
  have h3 : (setF (fm a (a 0)) 0 6).testBit (fm a (a 0) 0) = true := set_in.mpr ⟨0, by decide, rfl⟩
  rw [h2, Nat.zero_testBit] at h3
  cases h3
end MROW
