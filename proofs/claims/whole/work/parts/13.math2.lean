/-! ===== the class's ways and the spec's ===== -/
theorem hap_t {a : Nat → Nat} {n : Nat} (hR : Pm a) (hn : n = 11) (c : ((popN (ivsN a n) : Nat) : Int) = 11) : bI (ivsN a 11 = 4094) = 1 := sorry
theorem hap_f {a : Nat → Nat} {n : Nat} (hR : Pm a) (hn : n = 11) (c : ¬ ((popN (ivsN a n) : Nat) : Int) = 11) : bI (ivsN a 11 = 4094) = 0 := sorry
theorem mat_fm {a : Nat → Nat} {i j : Nat} (ha : lt12 a) (hi : i < 12) (hj : j < 12) : fm a (12 * 0 + fm a (12 * 1 + a 0) i) j = md ((((a j : Nat) : Int) - ((a 0 : Nat) : Int)) + ((md ((((a 0 : Nat) : Int) - ((a i : Nat) : Int)) + ((a 0 : Nat) : Int)) : Nat) : Int)) := by
  have h0 := ha 0 (by decide)
  have h1 := ha i hi
  have h2 := ha j hj
  have e1 : fm a (12 * 1 + a 0) i = md ((((a 0 : Nat) : Int) - ((a i : Nat) : Int)) + ((a 0 : Nat) : Int)) := by
    unfold fm fmz fmf
    rw [if_neg (by omega), if_neg (by omega)]
    unfold md
    omega
  rw [e1]
  have h3 := md_lt ((((a 0 : Nat) : Int) - ((a i : Nat) : Int)) + ((a 0 : Nat) : Int))
  generalize md ((((a 0 : Nat) : Int) - ((a i : Nat) : Int)) + ((a 0 : Nat) : Int)) = x at h3 ⊢
  unfold fm fmz fmf
  rw [if_pos (by omega), if_neg (by omega)]
  unfold md
  omega
theorem df_24 {a : Nat → Nat} {n : Nat} (ha : Pm a) (hn : 24 ≤ n) (hn2 : n < 48) (c : pk (fm a n) = pk (fm a 0)) : ((dfN a 48 : Nat) : Int) = 24 := sorry
theorem df_48 {a : Nat → Nat} (ha : Pm a) (h : ∀ c, 24 ≤ c → c < 48 → ¬ pk (fm a c) = pk (fm a 0)) : ((dfN a 48 : Nat) : Int) = 48 := sorry
theorem fo_iff {a b : Nat → Nat} {c : Nat} (hb : lt12 b) : alN (foB a b c) 12 = true ↔ pk (fm a c) = pk b := by
  rw [pk_eqv (fm_lt12 a c) hb, al_iff]
  exact ⟨fun h i hi => of_decide_eq_true (h i hi), fun h i hi => decide_eq_true (h i hi)⟩
theorem fo_t {a b : Nat → Nat} {c : Nat} (hb : lt12 b) (h : pk (fm a c) = pk b) : alN (foB a b c) 12 = true := (fo_iff hb).mpr h
theorem fo_f {a b : Nat → Nat} {c : Nat} (hb : lt12 b) (h : ¬ pk (fm a c) = pk b) : alN (foB a b c) 12 = false := by
  cases h2 : alN (foB a b c) 12
  · rfl
  · exact absurd ((fo_iff hb).mp h2) h
theorem ll_ls {s : Nat} (h : s < 4096) : llN s 12 = lsN s 12 := sorry
theorem pr_6 {s i : Nat} (h : s < 4096) (hi : i = 6) : popN (s &&& trN s i) / 2 = prO s i 12 := sorry
theorem pr_i {s i : Nat} (h : s < 4096) (h1 : 1 ≤ i) (h2 : i ≤ 6) (h3 : ¬ i = 6) : popN (s &&& trN s i) = prO s i 12 := sorry
theorem or0L (x : Int64) : x ||| 0 = x := by
  apply uN_inj
  rw [uN_or, show uN (0 : Int64) = 0 from by decide, Nat.or_zero]
theorem cm_f {a : Nat → Nat} {n : Nat} (h : ¬ setF (fm a (a 0)) 0 6 &&& setF (fm a n) 0 6 = 0) : cmL a n = cmL a (n + 1) := by
  show _ = if _ then _ else _
  rw [if_neg h, or0L]
theorem de_eq {a : Nat → Nat} {z n i : Nat} (h9 : i = n) (h : lsN (setF (fm a (a 0)) (n * z) z) 12 = lsN (setF (fm a (a 0)) 0 z) 12) : deB a z i = true := by
  subst h9
  refine decide_eq_true ?_
  rw [Nat.mul_comm]
  exact h
theorem de_no {a : Nat → Nat} {z n M : Nat} (hn : n < M) (c : ¬ lsN (setF (fm a (a 0)) (n * z) z) 12 = lsN (setF (fm a (a 0)) 0 z) 12) : ¬ alN (deB a z) M = true := fun h => by
  have h1 := of_decide_eq_true (al_iff.mp h n hn)
  rw [Nat.mul_comm] at h1
  exact c h1
theorem ck_sk {a : Nat → Nat} {code k : Nat} (ha : Pm a) (hc : code < 48) (h1 : 1 ≤ k) (h2 : k ≤ 12) : ckN (plcN (pk a) (pk (fm a code)) 12) k (13 - k) = skN a code k (13 - k) := sorry
/-- the run of neighbours that ends ahead of n, and the longest till there -/
def lgL (P : Int64) : Nat → Nat
  | 0 => 1
  | 1 => 1
  | n + 2 => if ent P (n + 1) = ent P n + 1 then lgL P (n + 1) + 1 else 1
def lgM (P : Int64) : Nat → Nat
  | 0 => 1
  | 1 => 1
  | n + 2 => max (lgM P (n + 1)) (lgL P (n + 2))
theorem lgL_le (P : Int64) : ∀ n, lgL P n ≤ n + 1
  | 0 => Nat.le_refl _
  | 1 => show 1 ≤ 2 by decide
  | n + 2 => by
    have h := lgL_le P (n + 1)
    unfold lgL
    split <;> omega
theorem lgM_le (P : Int64) : ∀ n, lgM P n ≤ n + 1
  | 0 => Nat.le_refl _
  | 1 => show 1 ≤ 2 by decide
  | n + 2 => by
    have h := lgM_le P (n + 1)
    have h2 := lgL_le P (n + 2)
    unfold lgM
    omega
theorem lgL_t {P : Int64} {n : Nat} (hn1 : 1 ≤ n) (h : ent P n = ent P (n - 1) + 1) : lgL P n + 1 = lgL P (n + 1) := by
  obtain ⟨m, rfl⟩ : ∃ m, n = m + 1 := ⟨n - 1, by omega⟩
  exact (if_pos h).symm
theorem lgL_f {P : Int64} {n : Nat} (hn1 : 1 ≤ n) (h : ¬ ent P n = ent P (n - 1) + 1) : 1 = lgL P (n + 1) := by
  obtain ⟨m, rfl⟩ : ∃ m, n = m + 1 := ⟨n - 1, by omega⟩
  exact (if_neg h).symm
theorem lgM_s {P : Int64} {n : Nat} (hn1 : 1 ≤ n) : max (lgM P n) (lgL P (n + 1)) = lgM P (n + 1) := by
  obtain ⟨m, rfl⟩ : ∃ m, n = m + 1 := ⟨n - 1, by omega⟩
  rfl
theorem lg_lk {a : Nat → Nat} {code n : Nat} (ha : Pm a) (hc : code < 48) (hn : n = 12) : lgM (plcN (pk a) (pk (fm a code)) 12) n = lkO a (fm a code) 12 := sorry
theorem mk_t {a : Nat → Nat} {k n : Nat} (h1 : ¬ n = a 0) (h2 : mkM a k n < ((skN a n k (13 - k) : Nat) : Int)) : ((skN a n k (13 - k) : Nat) : Int) = mkM a k (n + 1) ∧ (n : Int) = mkC a k (n + 1) := by
  have e : mkV a k n = ((skN a n k (13 - k) : Nat) : Int) := if_neg h1
  rw [← e] at h2 ⊢
  exact ⟨(if_pos h2).symm, (if_pos h2).symm⟩
theorem mk_f {a : Nat → Nat} {k n : Nat} (h1 : ¬ n = a 0) (h2 : ((skN a n k (13 - k) : Nat) : Int) ≤ mkM a k n) : mkM a k n = mkM a k (n + 1) ∧ mkC a k n = mkC a k (n + 1) := by
  have e : mkV a k n = ((skN a n k (13 - k) : Nat) : Int) := if_neg h1
  rw [← e] at h2
  exact ⟨(if_neg (Int.not_lt.mpr h2)).symm, (if_neg (Int.not_lt.mpr h2)).symm⟩
theorem mk_s {a : Nat → Nat} {k n : Nat} (h0 : -1 ≤ mkM a k n) (h1 : n = a 0) : mkM a k n = mkM a k (n + 1) ∧ mkC a k n = mkC a k (n + 1) := by
  have e : mkV a k n = -1 := if_pos h1
  have h2 : mkV a k n ≤ mkM a k n := by rw [e]; exact h0
  exact ⟨(if_neg (Int.not_lt.mpr h2)).symm, (if_neg (Int.not_lt.mpr h2)).symm⟩
theorem ct_f {f g : Nat → Nat} {n : Nat} (h : ¬ setF f 0 n ||| setF g 0 (12 - n) = 4095) : ctN f g n = ctN f g (n + 1) := by
  show _ = if _ then _ else _
  rw [if_neg h, Nat.or_zero]
theorem fp_f {a q : Nat → Nat} {w n : Nat} (c : plF a q n w = -1) : fpL a q w n = fpL a q w (n + 1) := by
  show _ = if _ then _ else _
  rw [if_pos c, or0L]
theorem pl_0 (a q : Nat → Nat) (n : Nat) : plF a q n 0 = 0 := by
  unfold plF
  exact ff_t rfl
def allL : Nat → Int64
  | 0 => 0
  | n + 1 => allL n ||| bitL n
theorem fp_L (a q : Nat → Nat) : ∀ n, fpL a q 0 n = allL n
  | 0 => rfl
  | n + 1 => by
    show (if plF a q n 0 = -1 then fpL a q 0 n ||| 0 else fpL a q 0 n ||| bitL n) = allL n ||| bitL n
    rw [pl_0, if_neg (by decide), fp_L a q n]
set_option maxRecDepth 100000 in
theorem all_48 : (281474976710655 : Int64) = allL 48 := by decide +kernel
theorem fp_all {a q : Nat → Nat} {w : Nat} (hw : w = 0) : (281474976710655 : Int64) = fpL a q w 48 := by
  subst hw
  rw [fp_L]
  exact all_48
theorem cp_t {q a K : Nat → Nat} {w n : Nat} (c : orN (wtB q (a n)) w = true) : pkn (cpK q a K w n) (cpC q a w n) = pkn (cpK q a K w (n + 1)) (cpC q a w (n + 1)) := by
  rw [show cpK q a K w (n + 1) = cpK q a K w n from if_pos c, show cpC q a w (n + 1) = cpC q a w n from if_pos c]
theorem cp_f {q a K : Nat → Nat} {w n : Nat} (c : ¬ orN (wtB q (a n)) w = true) : we (pkn (cpK q a K w n) (cpC q a w n)) (cpC q a w n) (a n) = pkn (cpK q a K w (n + 1)) (cpC q a w (n + 1)) := by
  rw [show cpK q a K w (n + 1) = upq (cpK q a K w n) (cpC q a w n) (a n) from if_neg c, show cpC q a w (n + 1) = cpC q a w n + 1 from if_neg c]
  exact pkn_up _ _ _
theorem cpC_12 {a q : Nat → Nat} {w n : Nat} (ha : Pm a) (hw : w ≤ 12) (hq : ∀ i, i < w → q i < 12) (hqd : ∀ i j, i < w → j < w → q i = q j → i = j) (hn : n < 12) (h : ¬ orN (wtB q (a n)) w = true) : cpC q a w n < 12 := sorry
