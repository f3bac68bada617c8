/-! ===== what forms keep ===== -/
section MKEPT
variable {a : Nat → Nat} {c k n : Nat}
theorem sk_all {m : Nat} (h : ∀ p, p < m → orN (kpB a c k p) (13 - k) = true) : ∀ n, n ≤ m → skN a c k n = n
  | 0, _ => rfl
  | n + 1, hn => by
    rw [← skN_t (h n (by omega)), sk_all h n (by omega)]
theorem sk_one : ∀ n p, p < n → orN (kpB a c k p) (13 - k) = true → 1 ≤ skN a c k n
  | 0, p, h, _ => absurd h (Nat.not_lt_zero p)
  | n + 1, p, h, ho => by
    by_cases hk : orN (kpB a c k n) (13 - k) = true
    · rw [← skN_t hk]
      omega
    · rw [← skN_f hk]
      by_cases hp : p = n
      · subst hp
        exact absurd ho hk
      · have := sk_one n p (by omega) ho
        omega
theorem sk_1 (ha : Pm a) (hc : c < 48) : skN a c 1 (13 - 1) = 12 := sk_all (m := 12) (fun p hp => by
  refine (kp_iff ha.1 (by decide) (by decide) (by omega)).mpr ?_
  obtain ⟨o, ho, h⟩ := Pm_onto (fm_Pm ha hc) (ha.1 p hp)
  exact ⟨o, by omega, by rw [setF_1, setF_1, h]⟩) 12 (Nat.le_refl _)
theorem sk_12 (ha : Pm a) (hc : c < 48) : skN a c 12 (13 - 12) = 1 := sk_all (m := 1) (fun p hp => by
  refine (kp_iff ha.1 (by decide) (by decide) (by omega)).mpr ⟨0, by decide, ?_⟩
  rw [show p = 0 by omega, rs_all (fm_Pm ha hc) rfl, rs_all ha rfl]) 1 (Nat.le_refl _)
theorem lk_ge (ha : Pm a) (hc : c < 48) : 1 ≤ lkO a (fm a c) 12 := by
  obtain ⟨o, ho, h⟩ := Pm_onto (fm_Pm ha hc) (ha.1 0 (by decide))
  have h1 := lkO_ge (a := a) (f := fm a c) 12 0 o (by decide) ho
  have h2 : 1 ≤ smN a (fm a c) 0 o 12 0 := smN_ge (L := 1) (fun i hi => by
    rw [show i = 0 by omega]
    exact ⟨by decide, by omega, h.symm⟩) 12 0 (by decide) (by decide)
  omega
theorem lk_sk (ha : Pm a) (hc : c < 48) (hk : 1 ≤ k) (hk2 : k ≤ 12) (h : k ≤ lkO a (fm a c) 12) : 1 ≤ skN a c k (13 - k) := by
  rcases lkO_at (a := a) (f := fm a c) 12 (Nat.le_refl _) with h0 | ⟨p, o, hp, ho, h1⟩
  · omega
  · rw [h1] at h
    have h2 := (smN_all (a := a) (f := fm a c) (p := p) (o := o) 12 0).2
    have h3 := h2 (k - 1) (by omega) (by omega)
    refine sk_one (13 - k) p (by omega) ((kp_iff ha.1 hk hk2 (by omega)).mpr ⟨o, by omega, ?_⟩)
    have key : ∀ n, n ≤ k → setF (fm a c) o n = setF a p n := by
      intro n
      induction n with
      | zero => intro _; rfl
      | succ n ih =>
        intro hn
        show setF (fm a c) o n ||| 2 ^ fm a c (o + n) = setF a p n ||| 2 ^ a (p + n)
        rw [ih (by omega), (h2 n (by omega) (by omega)).2.2]
    exact key k (Nat.le_refl _)
theorem mk_best (ha : Pm a) : ∀ n, 1 ≤ n → n ≤ 48 → (n = 1 ∧ a 0 = 0 ∧ mkM a k n = -1) ∨ ∃ b : Nat, mkC a k n = (b : Int) ∧ b < n ∧ ¬ b = a 0 ∧ mkM a k n = ((skN a b k (13 - k) : Nat) : Int) ∧ ∀ c, c < n → ¬ c = a 0 → skN a c k (13 - k) ≤ skN a b k (13 - k)
  | 0, h, _ => by omega
  | n + 1, _, hn => by
    by_cases hs : n = a 0
    · have e := mk_s (a := a) (k := k) (n := n) (mkM_in a k n).1 hs
      by_cases h0 : n = 0
      · subst h0
        exact Or.inl ⟨rfl, hs.symm, e.1.symm.trans rfl⟩
      · rcases mk_best ha n (by omega) (by omega) with ⟨h1, h2, -⟩ | ⟨b, h1, h2, h3, h4, h5⟩
        · omega
        · exact Or.inr ⟨b, e.2.symm.trans h1, by omega, h3, e.1.symm.trans h4, fun c hc hca => h5 c (by omega) hca⟩
    · by_cases hlt : mkM a k n < ((skN a n k (13 - k) : Nat) : Int)
      · have e := mk_t hs hlt
        refine Or.inr ⟨n, e.2.symm, by omega, hs, e.1.symm, fun c hc hca => ?_⟩
        by_cases hcn : c = n
        · subst hcn
          exact Nat.le_refl _
        · rcases mk_best ha n (by omega) (by omega) with ⟨h1, h2, -⟩ | ⟨b, h1, h2, h3, h4, h5⟩
          · omega
          · have := h5 c (by omega) hca
            omega
      · have e := mk_f hs (Int.not_lt.mp hlt)
        by_cases h0 : n = 0
        · subst h0
          have : mkM a k 0 = -1 := rfl
          omega
        · rcases mk_best ha n (by omega) (by omega) with ⟨h1, h2, h6⟩ | ⟨b, h1, h2, h3, h4, h5⟩
          · omega
          · refine Or.inr ⟨b, e.2.symm.trans h1, by omega, h3, e.1.symm.trans h4, fun c hc hca => ?_⟩
            by_cases hcn : c = n
            · subst hcn
              omega
            · exact h5 c (by omega) hca
theorem mk_48 (ha : Pm a) : ∃ b : Nat, mkC a k 48 = (b : Int) ∧ b < 48 ∧ ¬ b = a 0 ∧ ∀ c, c < 48 → ¬ c = a 0 → skN a c k (13 - k) ≤ skN a b k (13 - k) := by
  rcases mk_best (k := k) ha 48 (by decide) (Nat.le_refl _) with ⟨h, -⟩ | ⟨b, h1, h2, h3, -, h5⟩
  · omega
  · exact ⟨b, h1, h2, h3, h5⟩
/-! cuts -/
theorem ct_bit (f g : Nat → Nat) (t : Nat) : ∀ n, (ctN f g n).testBit t = decide (t < n ∧ setF f 0 t ||| setF g 0 (12 - t) = 4095)
  | 0 => by
    show (0 : Nat).testBit t = _
    simp
  | n + 1 => by
    have ih := ct_bit f g t n
    have e : (ctN f g (n + 1)).testBit t = ((ctN f g n).testBit t || (decide (n = t) && decide (setF f 0 n ||| setF g 0 (12 - n) = 4095))) := by
      by_cases h : setF f 0 n ||| setF g 0 (12 - n) = 4095
      · rw [show ctN f g (n + 1) = ctN f g n ||| 2 ^ n from if_pos h, Nat.testBit_or, Nat.testBit_two_pow]
        simp [h]
      · rw [show ctN f g (n + 1) = ctN f g n ||| 0 from if_neg h, Nat.or_zero]
        simp [h]
    rw [e, ih]
    by_cases h1 : n = t
    · subst h1
      simp
    · simp only [h1, decide_false, Bool.false_and, Bool.or_false]
      exact decide_eq_decide.mpr ⟨fun h => ⟨by omega, h.2⟩, fun h => ⟨by omega, h.2⟩⟩
theorem ct_0 {f g : Nat → Nat} (hg : Pm g) : ctN f g 13 &&& 1 = 1 := by
  have h := tb_1 (ctN f g 13) 0
  rw [Nat.pow_zero, Nat.div_one, ct_bit] at h
  rw [h]
  refine if_pos (decide_eq_true ⟨by decide, ?_⟩)
  show 0 ||| setF g 0 12 = 4095
  rw [rs_all hg rfl, Nat.zero_or]
theorem ct_12 {f g : Nat → Nat} (hf : Pm f) : ctN f g 13 / 2 ^ 12 &&& 1 = 1 := by
  rw [tb_1, ct_bit]
  refine if_pos (decide_eq_true ⟨by decide, ?_⟩)
  show setF f 0 12 ||| 0 = 4095
  rw [rs_all hf rfl, Nat.or_zero]
theorem fp_at {q : Nat → Nat} {w : Nat} (hc : c < 48) (h : 0 ≤ if w = 0 then -1 else plF a q c w) : (fpL a q w 48 >>> ((iI ((c : Nat) : Int)).toInt64 &&& 63)) &&& (1 : Int64) = 1 := by
  rw [ls_bit (by omega) (fp_lt a q w), fp_bit a q w c 48 (Nat.le_refl _)]
  refine if_pos (decide_eq_true ⟨hc, fun h2 => ?_⟩)
  split at h
  · omega
  · omega
end MKEPT
