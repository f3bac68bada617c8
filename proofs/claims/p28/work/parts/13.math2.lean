/-! ===== the class's ways and the spec's ===== -/
theorem hap_t {a : Nat → Nat} {n : Nat} (hR : Pm a) (hn : n = 11) (c : ((popN (ivsN a n) : Nat) : Int) = 11) : bI (ivsN a 11 = 4094) = 1 := by
  subst hn
  exact if_pos ((hap hR).mp (by omega))
theorem hap_f {a : Nat → Nat} {n : Nat} (hR : Pm a) (hn : n = 11) (c : ¬ ((popN (ivsN a n) : Nat) : Int) = 11) : bI (ivsN a 11 = 4094) = 0 := by
  subst hn
  exact if_neg fun q => c (by have := (hap hR).mpr q; omega)
theorem mat_fm {a : Nat → Nat} {i j : Nat} (ha : lt12 a) (hi : i < 12) (hj : j < 12) : fm a (12 * 0 + fm a (12 * 1 + a 0) i) j = md ((((a j : Nat) : Int) - ((a 0 : Nat) : Int)) + ((md ((((a 0 : Nat) : Int) - ((a i : Nat) : Int)) + ((a 0 : Nat) : Int)) : Nat) : Int)) := by
  have h0 := ha 0 (by decide)
  have h1 := ha i hi
  have h2 := ha j hj
  have e1 : fm a (12 * 1 + a 0) i = md ((((a 0 : Nat) : Int) - ((a i : Nat) : Int)) + ((a 0 : Nat) : Int)) := by
    unfold fm fmz fmf
    rw [if_neg (by omega), if_neg (by omega)]
    unfold md
    omega
  rw [e1]
  have h3 := md_lt ((((a 0 : Nat) : Int) - ((a i : Nat) : Int)) + ((a 0 : Nat) : Int))
  generalize md ((((a 0 : Nat) : Int) - ((a i : Nat) : Int)) + ((a 0 : Nat) : Int)) = x at h3 ⊢
  unfold fm fmz fmf
  rw [if_pos (by omega), if_neg (by omega)]
  unfold md
  omega
theorem df_24 {a : Nat → Nat} {n : Nat} (ha : Pm a) (hn : 24 ≤ n) (hn2 : n < 48) (c : pk (fm a n) = pk (fm a 0)) : ((dfN a 48 : Nat) : Int) = 24 := by
  rw [show (48 : Nat) = 24 + 24 from rfl, df_24' ha hn hn2 (sm_pk.mp c) 24 (Nat.le_refl _)]
  rfl
theorem df_48 {a : Nat → Nat} (ha : Pm a) (h : ∀ c, 24 ≤ c → c < 48 → ¬ pk (fm a c) = pk (fm a 0)) : ((dfN a 48 : Nat) : Int) = 48 := by
  rw [show (48 : Nat) = 24 + 24 from rfl, df_48' ha (fun m h1 h2 q => h m h1 h2 (sm_pk.mpr q)) 24 (Nat.le_refl _)]
  rfl
theorem fo_iff {a b : Nat → Nat} {c : Nat} (hb : lt12 b) : alN (foB a b c) 12 = true ↔ pk (fm a c) = pk b := by
  rw [pk_eqv (fm_lt12 a c) hb, al_iff]
  exact ⟨fun h i hi => of_decide_eq_true (h i hi), fun h i hi => decide_eq_true (h i hi)⟩
theorem fo_t {a b : Nat → Nat} {c : Nat} (hb : lt12 b) (h : pk (fm a c) = pk b) : alN (foB a b c) 12 = true := (fo_iff hb).mpr h
theorem fo_f {a b : Nat → Nat} {c : Nat} (hb : lt12 b) (h : ¬ pk (fm a c) = pk b) : alN (foB a b c) 12 = false := by
  cases h2 : alN (foB a b c) 12
  · rfl
  · exact absurd ((fo_iff hb).mp h2) h
theorem ll_ls {s : Nat} (h : s < 4096) : llN s 12 = lsN s 12 := ll_ls' h 12 (Nat.le_refl _)
theorem pr_6 {s i : Nat} (h : s < 4096) (hi : i = 6) : popN (s &&& trN s i) / 2 = prO s i 12 := pr_6' h hi
theorem pr_i {s i : Nat} (h : s < 4096) (h1 : 1 ≤ i) (h2 : i ≤ 6) (h3 : ¬ i = 6) : popN (s &&& trN s i) = prO s i 12 := pr_i' h h1 h2 h3
theorem or0L (x : Int64) : x ||| 0 = x := by
  apply uN_inj
  rw [uN_or, show uN (0 : Int64) = 0 from by decide, Nat.or_zero]
theorem cm_f {a : Nat → Nat} {n : Nat} (h : ¬ setF (fm a (a 0)) 0 6 &&& setF (fm a n) 0 6 = 0) : cmL a n = cmL a (n + 1) := by
  show _ = if _ then _ else _
  rw [if_neg h, or0L]
theorem de_eq {a : Nat → Nat} {z n i : Nat} (h9 : i = n) (h : lsN (setF (fm a (a 0)) (n * z) z) 12 = lsN (setF (fm a (a 0)) 0 z) 12) : deB a z i = true := by
  subst h9
  refine decide_eq_true ?_
  rw [Nat.mul_comm]
  exact h
theorem de_no {a : Nat → Nat} {z n M : Nat} (hn : n < M) (c : ¬ lsN (setF (fm a (a 0)) (n * z) z) 12 = lsN (setF (fm a (a 0)) 0 z) 12) : ¬ alN (deB a z) M = true := fun h => by
  have h1 := of_decide_eq_true (al_iff.mp h n hn)
  rw [Nat.mul_comm] at h1
  exact c h1
theorem ck_sk {a : Nat → Nat} {code k : Nat} (ha : Pm a) (hc : code < 48) (h1 : 1 ≤ k) (h2 : k ≤ 12) : ckN (plcN (pk a) (pk (fm a code)) 12) k (13 - k) = skN a code k (13 - k) := ck_sk' ha hc h1 h2 _ (Nat.le_refl _)
/-- the run of neighbours that ends ahead of n, and the longest till there -/
def lgL (P : Int64) : Nat → Nat
  | 0 => 1
  | 1 => 1
  | n + 2 => if ent P (n + 1) = ent P n + 1 then lgL P (n + 1) + 1 else 1
def lgM (P : Int64) : Nat → Nat
  | 0 => 1
  | 1 => 1
  | n + 2 => max (lgM P (n + 1)) (lgL P (n + 2))
theorem lgL_le (P : Int64) : ∀ n, lgL P n ≤ n + 1
  | 0 => Nat.le_refl _
  | 1 => show 1 ≤ 2 by decide
  | n + 2 => by
    have h := lgL_le P (n + 1)
    unfold lgL
    split <;> omega
theorem lgM_le (P : Int64) : ∀ n, lgM P n ≤ n + 1
  | 0 => Nat.le_refl _
  | 1 => show 1 ≤ 2 by decide
  | n + 2 => by
    have h := lgM_le P (n + 1)
    have h2 := lgL_le P (n + 2)
    unfold lgM
    omega
theorem lgL_t {P : Int64} {n : Nat} (hn1 : 1 ≤ n) (h : ent P n = ent P (n - 1) + 1) : lgL P n + 1 = lgL P (n + 1) := by
  obtain ⟨m, rfl⟩ : ∃ m, n = m + 1 := ⟨n - 1, by omega⟩
  exact (if_pos h).symm
theorem lgL_f {P : Int64} {n : Nat} (hn1 : 1 ≤ n) (h : ¬ ent P n = ent P (n - 1) + 1) : 1 = lgL P (n + 1) := by
  obtain ⟨m, rfl⟩ : ∃ m, n = m + 1 := ⟨n - 1, by omega⟩
  exact (if_neg h).symm
theorem lgM_s {P : Int64} {n : Nat} (hn1 : 1 ≤ n) : max (lgM P n) (lgL P (n + 1)) = lgM P (n + 1) := by
  obtain ⟨m, rfl⟩ : ∃ m, n = m + 1 := ⟨n - 1, by omega⟩
  rfl
/-! the longest run of neighbours is the longest segment kept -/
theorem lkI_ge {a f : Nat → Nat} {p x : Nat} : ∀ n, x ≤ lkI a f p x n ∧ ∀ o, o < n → smN a f p o 12 0 ≤ lkI a f p x n
  | 0 => ⟨Nat.le_refl _, fun o h => absurd h (Nat.not_lt_zero _)⟩
  | n + 1 => by
    obtain ⟨h1, h2⟩ := lkI_ge (a := a) (f := f) (p := p) (x := x) n
    unfold lkI
    by_cases c : lkI a f p x n < smN a f p n 12 0
    · rw [if_pos c]
      exact ⟨by omega, fun o ho => by
        rcases (show o < n ∨ o = n by omega) with h | rfl
        · have := h2 o h; omega
        · exact Nat.le_refl _⟩
    · rw [if_neg c]
      exact ⟨h1, fun o ho => by
        rcases (show o < n ∨ o = n by omega) with h | rfl
        · exact h2 o h
        · omega⟩
theorem lkI_at {a f : Nat → Nat} {p x : Nat} : ∀ n, n ≤ 12 → lkI a f p x n = x ∨ ∃ o, o < 12 ∧ lkI a f p x n = smN a f p o 12 0
  | 0, _ => Or.inl rfl
  | n + 1, hn => by
    unfold lkI
    by_cases c : lkI a f p x n < smN a f p n 12 0
    · rw [if_pos c]
      exact Or.inr ⟨n, by omega, rfl⟩
    · rw [if_neg c]
      exact lkI_at n (by omega)
theorem lkO_ge {a f : Nat → Nat} : ∀ n p o, p < n → o < 12 → smN a f p o 12 0 ≤ lkO a f n
  | 0, p, _, h, _ => absurd h (Nat.not_lt_zero _)
  | n + 1, p, o, hp, ho => by
    obtain ⟨h1, h2⟩ := lkI_ge (a := a) (f := f) (p := n) (x := lkO a f n) 12
    show _ ≤ lkI a f n (lkO a f n) 12
    rcases (show p < n ∨ p = n by omega) with h | rfl
    · exact Nat.le_trans (lkO_ge n p o h ho) h1
    · exact h2 o ho
theorem lkO_at {a f : Nat → Nat} : ∀ n, n ≤ 12 → lkO a f n = 0 ∨ ∃ p o, p < 12 ∧ o < 12 ∧ lkO a f n = smN a f p o 12 0
  | 0, _ => Or.inl rfl
  | n + 1, hn => by
    show lkI a f n (lkO a f n) 12 = 0 ∨ ∃ p o, p < 12 ∧ o < 12 ∧ lkI a f n (lkO a f n) 12 = _
    rcases lkI_at (a := a) (f := f) (p := n) (x := lkO a f n) 12 (Nat.le_refl _) with h | ⟨o, ho, h⟩
    · rw [h]
      exact lkO_at n (by omega)
    · exact Or.inr ⟨n, o, by omega, ho, h⟩
theorem smN_all {a f : Nat → Nat} {p o : Nat} : ∀ j n, n ≤ smN a f p o j n ∧ ∀ i, n ≤ i → i < smN a f p o j n → p + i < 12 ∧ o + i < 12 ∧ a (p + i) = f (o + i)
  | 0, n => ⟨Nat.le_refl _, fun i h1 h2 => absurd h2 (show ¬ i < n by omega)⟩
  | j + 1, n => by
    unfold smN
    by_cases c : p + n < 12 ∧ o + n < 12 ∧ a (p + n) = f (o + n)
    · rw [if_pos c]
      obtain ⟨h1, h2⟩ := smN_all (a := a) (f := f) (p := p) (o := o) j (n + 1)
      exact ⟨by omega, fun i hi1 hi2 => by
        rcases (show i = n ∨ n + 1 ≤ i by omega) with rfl | h
        · exact c
        · exact h2 i h hi2⟩
    · rw [if_neg c]
      exact ⟨Nat.le_refl _, fun i h1 h2 => absurd h2 (by omega)⟩
theorem smN_ge {a f : Nat → Nat} {p o L : Nat} (h : ∀ i, i < L → p + i < 12 ∧ o + i < 12 ∧ a (p + i) = f (o + i)) : ∀ j n, n ≤ L → L ≤ n + j → L ≤ smN a f p o j n
  | 0, n, h1, h2 => show L ≤ n by omega
  | j + 1, n, h1, h2 => by
    unfold smN
    by_cases c : p + n < 12 ∧ o + n < 12 ∧ a (p + n) = f (o + n)
    · rw [if_pos c]
      by_cases h3 : n + 1 ≤ L
      · exact smN_ge h j (n + 1) h3 (by omega)
      · have := (smN_all (a := a) (f := f) (p := p) (o := o) j (n + 1)).1
        omega
    · rw [if_neg c]
      by_cases h3 : n < L
      · exact absurd (h n h3) c
      · omega
theorem lgL_run {P : Int64} : ∀ n, 1 ≤ n → 1 ≤ lgL P n ∧ lgL P n ≤ n ∧ ∀ i, i < lgL P n → ent P (n - lgL P n + i) = ent P (n - lgL P n) + i
  | 0, h => absurd h (by decide)
  | 1, _ => ⟨Nat.le_refl _, Nat.le_refl _, fun i hi => by
      have h9 : lgL P 1 = 1 := rfl
      rw [h9] at hi ⊢
      have h0 : i = 0 := by omega
      subst h0
      rfl⟩
  | n + 2, _ => by
    obtain ⟨h1, h2, h3⟩ := lgL_run (P := P) (n + 1) (by omega)
    unfold lgL
    by_cases c : ent P (n + 1) = ent P n + 1
    · rw [if_pos c]
      have e : n + 2 - (lgL P (n + 1) + 1) = n + 1 - lgL P (n + 1) := by omega
      rw [e]
      refine ⟨by omega, by omega, fun i hi => ?_⟩
      rcases (show i < lgL P (n + 1) ∨ i = lgL P (n + 1) by omega) with h | rfl
      · exact h3 i h
      · have h4 := h3 (lgL P (n + 1) - 1) (by omega)
        rw [show n + 1 - lgL P (n + 1) + (lgL P (n + 1) - 1) = n by omega] at h4
        rw [show n + 1 - lgL P (n + 1) + lgL P (n + 1) = n + 1 by omega, c, h4]
        omega
    · rw [if_neg c]
      refine ⟨Nat.le_refl _, by omega, fun i hi => ?_⟩
      have h0 : i = 0 := by omega
      subst h0
      rfl
theorem lgM_ge {P : Int64} : ∀ n j, 1 ≤ j → j ≤ n → lgL P j ≤ lgM P n
  | 0, j, h1, h2 => by omega
  | 1, j, h1, h2 => by
    have h0 : j = 1 := by omega
    subst h0
    exact Nat.le_refl _
  | n + 2, j, h1, h2 => by
    show _ ≤ max (lgM P (n + 1)) (lgL P (n + 2))
    rcases (show j ≤ n + 1 ∨ j = n + 2 by omega) with h | rfl
    · have := lgM_ge (P := P) (n + 1) j h1 h; omega
    · omega
theorem lgM_at {P : Int64} : ∀ n, 1 ≤ n → ∃ j, 1 ≤ j ∧ j ≤ n ∧ lgM P n = lgL P j
  | 0, h => absurd h (by decide)
  | 1, _ => ⟨1, by decide, by decide, rfl⟩
  | n + 2, _ => by
    obtain ⟨j, h1, h2, h3⟩ := lgM_at (P := P) (n + 1) (by omega)
    have e : lgM P (n + 2) = max (lgM P (n + 1)) (lgL P (n + 2)) := rfl
    rcases (show max (lgM P (n + 1)) (lgL P (n + 2)) = lgM P (n + 1) ∨ max (lgM P (n + 1)) (lgL P (n + 2)) = lgL P (n + 2) by omega) with h | h
    · exact ⟨j, h1, by omega, by omega⟩
    · exact ⟨n + 2, by omega, Nat.le_refl _, by omega⟩
theorem lg_of {P : Int64} {p o m : Nat} (h : ∀ i, i < m → ent P (p + i) = o + i) : ∀ i, i < m → i + 1 ≤ lgL P (p + i + 1)
  | 0, hi => by
    show 1 ≤ lgL P (p + 0 + 1)
    exact (lgL_run (p + 0 + 1) (by omega)).1
  | i + 1, hi => by
    have ih := lg_of h i (by omega)
    have e : lgL P (p + i + 2) = if ent P (p + i + 1) = ent P (p + i) + 1 then lgL P (p + i + 1) + 1 else 1 := rfl
    have h1 := h i (by omega)
    have h2 := h (i + 1) hi
    rw [if_pos (by rw [show p + i + 1 = p + (i + 1) by omega, h2, h1]; omega)] at e
    rw [show p + (i + 1) + 1 = p + i + 2 by omega, e]
    omega
theorem lg_lk {a : Nat → Nat} {code n : Nat} (ha : Pm a) (hc : code < 48) (hn : n = 12) : lgM (plcN (pk a) (pk (fm a code)) 12) n = lkO a (fm a code) 12 := by
  subst hn
  have hf := fm_Pm ha hc
  generalize fm a code = f at hf ⊢
  have hE : ∀ i, i < 12 → ent (plcN (pk a) (pk f) 12) i = pl a f i := fun i hi => by
    rw [plc_ent ha.1 hf 12 (Nat.le_refl _) _ (by omega), if_pos hi]
  refine Nat.le_antisymm ?_ ?_
  · obtain ⟨j, hj1, hj2, e⟩ := lgM_at (P := plcN (pk a) (pk f) 12) 12 (by decide)
    obtain ⟨h1, h2, h3⟩ := lgL_run (P := plcN (pk a) (pk f) 12) j hj1
    rw [e]
    generalize lgL (plcN (pk a) (pk f) 12) j = L at h1 h2 h3
    have h4 : ∀ i, i < L → pl a f (j - L + i) = pl a f (j - L) + i := fun i hi => by
      have := h3 i hi
      rw [hE _ (by omega), hE _ (by omega)] at this
      exact this
    have h5 : ∀ i, i < L → pl a f (j - L + i) < 12 := fun i hi => pn_lt _ _
    refine Nat.le_trans (smN_ge (p := j - L) (o := pl a f (j - L)) (fun i hi => ?_) 12 0 (Nat.zero_le _) (by omega)) (lkO_ge 12 (j - L) (pl a f (j - L)) (by omega) (pn_lt _ _))
    have h6 := h4 i hi
    have h7 := h5 i hi
    refine ⟨by omega, by omega, ?_⟩
    rw [← h6]
    exact (pl_f ha.1 hf (by omega)).symm
  · rcases lkO_at (a := a) (f := f) 12 (Nat.le_refl _) with h | ⟨p, o, hp, ho, h⟩
    · omega
    · rw [h]
      obtain ⟨-, h1⟩ := smN_all (a := a) (f := f) (p := p) (o := o) 12 0
      generalize smN a f p o 12 0 = m at h1
      have h2 : ∀ i, i < m → ent (plcN (pk a) (pk f) 12) (p + i) = o + i := fun i hi => by
        obtain ⟨h3, h4, h5⟩ := h1 i (Nat.zero_le _) hi
        rw [hE _ h3]
        refine hf.2 _ _ (pn_lt _ _) h4 ?_
        rw [← h5]
        exact pl_f ha.1 hf h3
      by_cases hm : m = 0
      · omega
      · have h3 := lg_of h2 (m - 1) (by omega)
        obtain ⟨h4, -, -⟩ := h1 (m - 1) (Nat.zero_le _) (by omega)
        have h5 := lgM_ge (P := plcN (pk a) (pk f) 12) 12 (p + (m - 1) + 1) (by omega) (by omega)
        omega
theorem mk_t {a : Nat → Nat} {k n : Nat} (h1 : ¬ n = a 0) (h2 : mkM a k n < ((skN a n k (13 - k) : Nat) : Int)) : ((skN a n k (13 - k) : Nat) : Int) = mkM a k (n + 1) ∧ (n : Int) = mkC a k (n + 1) := by
  have e : mkV a k n = ((skN a n k (13 - k) : Nat) : Int) := if_neg h1
  rw [← e] at h2 ⊢
  exact ⟨(if_pos h2).symm, (if_pos h2).symm⟩
theorem mk_f {a : Nat → Nat} {k n : Nat} (h1 : ¬ n = a 0) (h2 : ((skN a n k (13 - k) : Nat) : Int) ≤ mkM a k n) : mkM a k n = mkM a k (n + 1) ∧ mkC a k n = mkC a k (n + 1) := by
  have e : mkV a k n = ((skN a n k (13 - k) : Nat) : Int) := if_neg h1
  rw [← e] at h2
  exact ⟨(if_neg (Int.not_lt.mpr h2)).symm, (if_neg (Int.not_lt.mpr h2)).symm⟩
theorem mk_s {a : Nat → Nat} {k n : Nat} (h0 : -1 ≤ mkM a k n) (h1 : n = a 0) : mkM a k n = mkM a k (n + 1) ∧ mkC a k n = mkC a k (n + 1) := by
  have e : mkV a k n = -1 := if_pos h1
  have h2 : mkV a k n ≤ mkM a k n := by rw [e]; exact h0
  exact ⟨(if_neg (Int.not_lt.mpr h2)).symm, (if_neg (Int.not_lt.mpr h2)).symm⟩
theorem ct_f {f g : Nat → Nat} {n : Nat} (h : ¬ setF f 0 n ||| setF g 0 (12 - n) = 4095) : ctN f g n = ctN f g (n + 1) := by
  show _ = if _ then _ else _
  rw [if_neg h, Nat.or_zero]
theorem fp_f {a q : Nat → Nat} {w n : Nat} (c : plF a q n w = -1) : fpL a q w n = fpL a q w (n + 1) := by
  show _ = if _ then _ else _
  rw [if_pos c, or0L]
theorem pl_0 (a q : Nat → Nat) (n : Nat) : plF a q n 0 = 0 := by
  unfold plF
  exact ff_t rfl
def allL : Nat → Int64
  | 0 => 0
  | n + 1 => allL n ||| bitL n
theorem fp_L (a q : Nat → Nat) : ∀ n, fpL a q 0 n = allL n
  | 0 => rfl
  | n + 1 => by
    show (if plF a q n 0 = -1 then fpL a q 0 n ||| 0 else fpL a q 0 n ||| bitL n) = allL n ||| bitL n
    rw [pl_0, if_neg (by decide), fp_L a q n]
set_option maxRecDepth 100000 in
theorem all_48 : (281474976710655 : Int64) = allL 48 := by decide +kernel
theorem fp_all {a q : Nat → Nat} {w : Nat} (hw : w = 0) : (281474976710655 : Int64) = fpL a q w 48 := by
  subst hw
  rw [fp_L]
  exact all_48
theorem cp_t {q a K : Nat → Nat} {w n : Nat} (c : orN (wtB q (a n)) w = true) : pkn (cpK q a K w n) (cpC q a w n) = pkn (cpK q a K w (n + 1)) (cpC q a w (n + 1)) := by
  rw [show cpK q a K w (n + 1) = cpK q a K w n from if_pos c, show cpC q a w (n + 1) = cpC q a w n from if_pos c]
theorem cp_f {q a K : Nat → Nat} {w n : Nat} (c : ¬ orN (wtB q (a n)) w = true) : we (pkn (cpK q a K w n) (cpC q a w n)) (cpC q a w n) (a n) = pkn (cpK q a K w (n + 1)) (cpC q a w (n + 1)) := by
  rw [show cpK q a K w (n + 1) = upq (cpK q a K w n) (cpC q a w n) (a n) from if_neg c, show cpC q a w (n + 1) = cpC q a w n + 1 from if_neg c]
  exact pkn_up _ _ _
theorem cpC_12 {a q : Nat → Nat} {w n : Nat} (ha : Pm a) (hw : w ≤ 12) (hq : ∀ i, i < w → q i < 12) (hqd : ∀ i j, i < w → j < w → q i = q j → i = j) (hn : n < 12) (h : ¬ orN (wtB q (a n)) w = true) : cpC q a w n < 12 := cpC_12' ha hq hqd hn h
