/-! ===== rows as longs ===== -/
abbrev Pm (a : Nat → Nat) : Prop := lt12 a ∧ ∀ i j, i < 12 → j < 12 → a i = a j → i = j
def pkn (f : Nat → Nat) : Nat → Int64
  | 0 => 0
  | n + 1 => we (pkn f n) n (f n)
def pk (f : Nat → Nat) : Int64 := pkn f 12
theorem rw_Pm {a0 a1 : Nat → Nat} (h0 : Pm a0) (h1 : Pm a1) (r : Nat) : Pm (rw_ r a0 a1) := by
  unfold rw_
  split
  · exact h0
  · exact h1
theorem md_nat (n : Nat) : md ((n : Nat) : Int) = n % 12 := by unfold md; omega
theorem ent_pkn' {f : Nat → Nat} : ∀ {n : Nat}, (∀ i, i < n → f i < 16) → n ≤ 16 → ∀ j, j < 16 → ent (pkn f n) j = if j < n then f j else 0
  | 0, _, _, j, _ => ent_0 j
  | n + 1, hf, hn, j, hj => by
    have ih := ent_pkn' (f := f) (n := n) (fun i hi => hf i (by omega)) (by omega) j hj
    show ent (we (pkn f n) n (f n)) j = _
    rw [ent_we _ (by omega) (hf n (by omega)) hj, ih]
    by_cases h1 : j = n
    · rw [if_pos h1, if_pos (by omega), h1]
    · rw [if_neg h1]
      by_cases h2 : j < n
      · rw [if_pos h2, if_pos (by omega)]
      · rw [if_neg h2, if_neg (by omega)]
theorem ent_pkn {f : Nat → Nat} {n j : Nat} (hf : ∀ i, i < n → f i < 16) (hn : n ≤ 12) (hj : j < n) : ent (pkn f n) j = f j := by
  rw [ent_pkn' hf (by omega) j (by omega), if_pos hj]
theorem ent_pk {f : Nat → Nat} {j : Nat} (hf : lt12 f) (hj : j < 12) : ent (pk f) j = f j := ent_pkn (fun i hi => by have := hf i hi; omega) (Nat.le_refl 12) hj
theorem ent_pk0 {f : Nat → Nat} {j : Nat} (hf : lt12 f) (hj : 12 ≤ j) (hj2 : j < 16) : ent (pk f) j = 0 := by
  unfold pk
  rw [ent_pkn' (fun i hi => by have := hf i hi; omega) (by decide) j hj2, if_neg (by omega)]
/-- a long that has a row's digits is the row -/
theorem eq_pk {x : Int64} {f : Nat → Nat} (hf : lt12 f) (h : ∀ j, j < 16 → ent x j = if j < 12 then f j else 0) : x = pk f := ent_ext fun j hj => by
  rw [h j hj]
  by_cases h1 : j < 12
  · rw [if_pos h1, ent_pk hf h1]
  · rw [if_neg h1, ent_pk0 hf (by omega) hj]
theorem pk_eqv {f g : Nat → Nat} (hf : lt12 f) (hg : lt12 g) : pk f = pk g ↔ ∀ i, i < 12 → f i = g i := by
  constructor
  · intro h i hi
    rw [← ent_pk hf hi, h, ent_pk hg hi]
  · intro h
    exact eq_pk hg fun j hj => by
      by_cases h1 : j < 12
      · rw [if_pos h1, ent_pk hf h1, h j h1]
      · rw [if_neg h1, ent_pk0 hf (by omega) hj]
theorem pkn_cg {f g : Nat → Nat} : ∀ {n : Nat}, (∀ i, i < n → f i = g i) → pkn f n = pkn g n
  | 0, _ => rfl
  | n + 1, h => by
    show we (pkn f n) n (f n) = we (pkn g n) n (g n)
    rw [pkn_cg (n := n) (fun i hi => h i (by omega)), h n (by omega)]
theorem pkn_up (q : Nat → Nat) (w t : Nat) : we (pkn q w) w t = pkn (upq q w t) (w + 1) := by
  show _ = we (pkn (upq q w t) w) w (upq q w t w)
  rw [show upq q w t w = t from if_pos rfl, pkn_cg (f := upq q w t) (g := q) (fun i hi => if_neg (by omega))]
theorem fwp_fmf {code j : Nat} (hc : code < 48) (hj : j < 12) : fwp code (fmf code j) = j ∧ fmf code j < 12 ∧ fwp code j = fmf code j := by
  unfold fwp fmf
  by_cases h : 2 ≤ code / 12
  · rw [if_pos h, if_pos (by omega), if_pos (by omega)]; omega
  · rw [if_neg h, if_neg (by omega)]; exact ⟨rfl, hj, rfl⟩
theorem fwt_fmz {a : Nat → Nat} {code n j : Nat} (ha : lt12 a) (hn : n < 12) (hc : code < 48) (hj : fmf code j = n) : fwt (pk a) code n = fmz a code j := by
  unfold fwt fmz
  rw [ent_pk ha hn, ent_pk ha (by decide), hj]
  by_cases h : code / 12 = 1 ∨ code / 12 = 3
  · rw [if_pos h, if_neg (by omega)]; omega
  · rw [if_neg h, if_pos (by omega)]; omega
theorem fw_pk {a : Nat → Nat} {code : Nat} (ha : lt12 a) (hc : code < 48) : fw (pk a) code = pk (fm a code) := by
  have key : ∀ n, n ≤ 12 → ∀ j, j < 16 → ent (fwl (pk a) code n) j = if j < 12 ∧ fmf code j < n then fm a code j else 0 := by
    intro n
    induction n with
    | zero =>
      intro _ j hj
      rw [if_neg (by omega)]
      exact ent_0 j
    | succ n ih =>
      intro hn j hj
      have ih := ih (by omega) j hj
      have hf := fwp_fmf hc (show n < 12 by omega)
      have hp : fwp code n < 12 := by omega
      show ent (we (fwl (pk a) code n) (fwp code n) (md (fwt (pk a) code n))) j = _
      rw [ent_we _ (by omega) (by have := md_lt (fwt (pk a) code n); omega) hj, ih]
      by_cases h1 : j = fwp code n
      · have h2 : fmf code j = n := by
          have h3 := fwp_fmf hc (show fwp code n < 12 from hp)
          rw [h1]
          have h4 := fwp_fmf hc (show n < 12 by omega)
          rw [h4.2.2]
          have h5 := (fwp_fmf hc (show fmf code n < 12 from h4.2.1)).2.2
          rw [← h5]
          exact h4.1
        rw [if_pos h1, if_pos ⟨by omega, by omega⟩]
        show md _ = md _
        rw [fwt_fmz ha (by omega) hc h2]
      · rw [if_neg h1]
        by_cases h2 : j < 12 ∧ fmf code j < n
        · rw [if_pos h2, if_pos ⟨h2.1, by omega⟩]
        · rw [if_neg h2, if_neg]
          rintro ⟨h3, h4⟩
          have h5 : fmf code j = n := by omega
          exact h1 (by rw [← h5]; exact (fwp_fmf hc h3).1.symm)
  exact eq_pk (fm_lt12 a code) fun j hj => by
    show ent (fwl (pk a) code 12) j = _
    rw [key 12 (Nat.le_refl _) j hj]
    by_cases h1 : j < 12
    · rw [if_pos ⟨h1, (fwp_fmf hc h1).2.1⟩, if_pos h1]
    · rw [if_neg (by omega), if_neg h1]
theorem setN_pk {f : Nat → Nat} (hf : lt12 f) {p : Nat} : ∀ {n : Nat}, p + n ≤ 12 → setN (pk f) p n = setF f p n
  | 0, _ => rfl
  | n + 1, h => by
    show setN (pk f) p n ||| 2 ^ ent (pk f) (p + n) = setF f p n ||| 2 ^ f (p + n)
    rw [setN_pk hf (by omega), ent_pk hf (by omega)]
theorem setF_cg {f g : Nat → Nat} {p : Nat} : ∀ {n : Nat}, (∀ i, i < p + n → f i = g i) → setF f p n = setF g p n
  | 0, _ => rfl
  | n + 1, h => by
    show setF f p n ||| 2 ^ f (p + n) = setF g p n ||| 2 ^ g (p + n)
    rw [setF_cg (n := n) (fun i hi => h i (by omega)), h (p + n) (by omega)]
/-- the form that begins with the row's first tone is the row -/
theorem fm_self {a : Nat → Nat} (ha : lt12 a) {i : Nat} (hi : i < 12) : fm a (a 0) i = a i := by
  have h0 := ha 0 (by decide)
  have hi2 := ha i hi
  unfold fm fmz fmf md
  rw [if_pos (by omega), if_neg (by omega)]
  omega
theorem sg_pk {a : Nat → Nat} (ha : lt12 a) {p n : Nat} (h : p + n ≤ 12) : setN (pk a) p n = setF (fm a (a 0)) p n := by
  rw [setN_pk ha h]
  exact setF_cg fun i hi => (fm_self ha (by omega)).symm
theorem ff_spec (p : Nat → Bool) : ∀ j n, (ff p j n = -1 ∧ ∀ m, n ≤ m → m < n + j → p m = false) ∨ ∃ m, n ≤ m ∧ m < n + j ∧ ff p j n = (m : Int) ∧ p m = true ∧ ∀ i, n ≤ i → i < m → p i = false
  | 0, n => Or.inl ⟨rfl, fun m h1 h2 => by omega⟩
  | j + 1, n => by
    by_cases h : p n = true
    · exact Or.inr ⟨n, Nat.le_refl _, by omega, ff_t h, h, fun i h1 h2 => by omega⟩
    · have h9 : p n = false := by simpa using h
      rw [ff_f h9]
      rcases ff_spec p j (n + 1) with ⟨h1, h2⟩ | ⟨m, h1, h2, h3, h4, h5⟩
      · refine Or.inl ⟨h1, fun m h3 h4 => ?_⟩
        rcases (show m = n ∨ n + 1 ≤ m by omega) with rfl | h5
        · exact h9
        · exact h2 m h5 (by omega)
      · refine Or.inr ⟨m, by omega, by omega, h3, h4, fun i h6 h7 => ?_⟩
        rcases (show i = n ∨ n + 1 ≤ i by omega) with rfl | h8
        · exact h9
        · exact h5 i h8 h7
theorem fb_holes : ∀ (m n : Nat) (f : Nat → Nat), (∀ i, i < n → f i < m) → (∀ i j, i < n → j < n → f i = f j → i = j) → n ≤ m
  | 0, n, f, h1, h2 => by
    rcases Nat.eq_zero_or_pos n with h | h
    · omega
    · exact absurd (h1 0 h) (Nat.not_lt_zero _)
  | m + 1, n, f, h1, h2 => by
    rcases Nat.eq_zero_or_pos n with h | h
    · omega
    · by_cases hm : ∃ k, k < n ∧ f k = m
      · obtain ⟨k, hk, hkm⟩ := hm
        have key := fb_holes m (n - 1) (fun i => f (if i < k then i else i + 1)) (fun i hi => by
            have h3 : (if i < k then i else i + 1) < n := by split <;> omega
            have h4 := h1 _ h3
            have h5 : f (if i < k then i else i + 1) ≠ m := fun q => by
              have h6 := h2 _ k h3 hk (q.trans hkm.symm)
              revert h6
              split <;> omega
            show f (if i < k then i else i + 1) < m
            omega)
          (fun i j hi hj q => by
            have h3 : (if i < k then i else i + 1) < n := by split <;> omega
            have h4 : (if j < k then j else j + 1) < n := by split <;> omega
            have h6 := h2 _ _ h3 h4 q
            revert h6
            split <;> split <;> omega)
        omega
      · have key := fb_holes m n f (fun i hi => by
            have h4 := h1 i hi
            have h5 : f i ≠ m := fun q => hm ⟨i, hi, q⟩
            omega) h2
        omega
/-- every tone stands in a row -/
theorem Pm_onto {a : Nat → Nat} (ha : Pm a) {t : Nat} (ht : t < 12) : ∃ i, i < 12 ∧ a i = t := by
  by_cases h : ∃ i, i < 12 ∧ a i = t
  · exact h
  · exfalso
    have key := fb_holes 12 13 (fun i => if i = 12 then t else a i) (fun i hi => by
        show (if i = 12 then t else a i) < 12
        split
        · exact ht
        · exact ha.1 i (by omega))
      (fun i j hi hj q => by
        have q : (if i = 12 then t else a i) = (if j = 12 then t else a j) := q
        by_cases h1 : i = 12 <;> by_cases h2 : j = 12
        · omega
        · rw [if_pos h1, if_neg h2] at q
          exact absurd ⟨j, by omega, q.symm⟩ h
        · rw [if_neg h1, if_pos h2] at q
          exact absurd ⟨i, by omega, q⟩ h
        · rw [if_neg h1, if_neg h2] at q
          exact ha.2 i j (by omega) (by omega) q)
    omega
theorem pin_spec {a : Nat → Nat} (ha : Pm a) {t : Nat} (ht : t < 12) : ∃ i, i < 12 ∧ a i = t ∧ pin (pk a) t = (i : Int) := by
  rcases ff_spec (fun i => decide (ent (pk a) i = t)) 12 0 with ⟨h1, h2⟩ | ⟨m, h1, h2, h3, h4, h5⟩
  · obtain ⟨i, hi, hit⟩ := Pm_onto ha ht
    have h3 := h2 i (Nat.zero_le _) (by omega)
    rw [decide_eq_false_iff_not, ent_pk ha.1 hi] at h3
    exact absurd hit h3
  · have h4 := of_decide_eq_true h4
    rw [ent_pk ha.1 (by omega)] at h4
    exact ⟨m, by omega, h4, h3⟩
theorem pin_pk {a : Nat → Nat} (ha : Pm a) {t : Nat} (ht : t < 12) : 0 ≤ pin (pk a) t := by
  obtain ⟨i, h1, h2, h3⟩ := pin_spec ha ht
  omega
theorem pn_pk {a : Nat → Nat} (ha : Pm a) {t : Nat} (ht : t < 12) : a (pn (pk a) t) = t := by
  obtain ⟨i, h1, h2, h3⟩ := pin_spec ha ht
  unfold pn
  rw [h3]
  exact h2
theorem pn_uq {a : Nat → Nat} (ha : Pm a) {t i : Nat} (ht : t < 12) (hi : i < 12) (h : a i = t) : pn (pk a) t = i := ha.2 _ _ (pn_lt _ _) hi ((pn_pk ha ht).trans h.symm)
theorem put_pk {a : Nat → Nat} (ha : Pm a) {i t : Nat} (hi : i < 12) (ht : t < 12) : we (we (pk a) (pn (pk a) t) (a i)) i t = pk (putF a i t) := by
  have hp := pn_lt (pk a) t
  have hai := ha.1 i hi
  have hlt : lt12 (putF a i t) := fun j hj => by
    unfold putF
    split
    · exact ht
    · split
      · exact hai
      · exact ha.1 j hj
  refine eq_pk hlt fun j hj => ?_
  rw [ent_we _ (by omega) (by omega) hj, ent_we _ (by omega) (by omega) hj]
  by_cases h1 : j = i
  · rw [if_pos h1, if_pos (by omega)]
    show t = putF a i t j
    rw [putF, if_pos h1]
  · rw [if_neg h1]
    by_cases h2 : j < 12
    · rw [if_pos h2, putF, if_neg h1]
      by_cases h3 : j = pn (pk a) t
      · rw [if_pos h3, if_pos (by rw [h3]; exact pn_pk ha ht)]
      · rw [if_neg h3, if_neg (fun q => h3 (pn_uq ha ht h2 q).symm), ent_pk ha.1 h2]
    · rw [if_neg h2, if_neg (by omega), ent_pk0 ha.1 (by omega) hj]
theorem fm_Pm {a : Nat → Nat} (ha : Pm a) {code : Nat} (hc : code < 48) : Pm (fm a code) := by
  refine ⟨fm_lt12 a code, fun i j hi hj h => ?_⟩
  have h1 := (fwp_fmf hc hi)
  have h2 := (fwp_fmf hc hj)
  have b1 := ha.1 _ h1.2.1
  have b2 := ha.1 _ h2.2.1
  have h3 : a (fmf code i) = a (fmf code j) := by
    unfold fm fmz md at h
    revert h
    split <;> omega
  have h4 := ha.2 _ _ h1.2.1 h2.2.1 h3
  rw [← h1.1, ← h2.1, h4]
theorem hasAll_fm {a : Nat → Nat} (ha : Pm a) {code : Nat} (hc : code < 48) : hasAll (pk a) (pk (fm a code)) := fun i hi => by
  rw [ent_pk ha.1 hi]
  exact pin_pk (fm_Pm ha hc) (ha.1 i hi)
/-- a written segment's place in a row -/
def phF (f q : Nat → Nat) (w : Nat) : Int := ff (fun p => alN (fun k => decide (f (p + k) = q k)) w) (13 - w) 0
theorem phF_in (f q : Nat → Nat) (w : Nat) : -1 ≤ phF f q w ∧ phF f q w < 14 := by
  have := ff_in (fun p => alN (fun k => decide (f (p + k) = q k)) w) (13 - w) 0
  unfold phF
  omega
theorem al_iff {p : Nat → Bool} : ∀ {n : Nat}, alN p n = true ↔ ∀ i, i < n → p i = true
  | 0 => ⟨fun _ i hi => absurd hi (Nat.not_lt_zero _), fun _ => rfl⟩
  | n + 1 => by
    show (alN p n && p n) = true ↔ _
    rw [Bool.and_eq_true, al_iff (n := n)]
    constructor
    · rintro ⟨h1, h2⟩ i hi
      rcases (show i < n ∨ i = n by omega) with h | rfl
      · exact h1 i h
      · exact h2
    · exact fun h => ⟨fun i hi => h i (by omega), h n (by omega)⟩
theorem or_iff {p : Nat → Bool} : ∀ {n : Nat}, orN p n = true ↔ ∃ i, i < n ∧ p i = true
  | 0 => ⟨fun h => (nomatch h), fun ⟨i, hi, _⟩ => absurd hi (Nat.not_lt_zero _)⟩
  | n + 1 => by
    show (orN p n || p n) = true ↔ _
    rw [Bool.or_eq_true, or_iff (n := n)]
    constructor
    · rintro (⟨i, h1, h2⟩ | h)
      · exact ⟨i, by omega, h2⟩
      · exact ⟨n, by omega, h⟩
    · rintro ⟨i, h1, h2⟩
      rcases (show i < n ∨ i = n by omega) with h | rfl
      · exact Or.inl ⟨i, h, h2⟩
      · exact Or.inr h2
theorem al_of {p : Nat → Bool} {n : Nat} (h : ∀ i, i < n → p i = true) : alN p n = true := al_iff.mpr h
section PH
variable {f q : Nat → Nat} {w : Nat}
theorem ph_at (hf : Pm f) (hq : ∀ i, i < w → q i < 12) (hw0 : 0 < w) {m : Nat} (hm : m + w ≤ 12) (h : alN (fun k => decide (f (m + k) = q k)) w = true) : m = pn (pk f) (q 0) := by
  have h1 := of_decide_eq_true (al_iff.mp h 0 hw0)
  exact (pn_uq hf (hq 0 hw0) (by omega) h1).symm
theorem ph_yes {n : Nat} (hf : Pm f) (hq : ∀ i, i < w → q i < 12) (hw0 : 0 < w) (hn : n = w) (h1 : pn (pk f) (q 0) + w ≤ 12) (hmt : ∀ i, i < n → f (pn (pk f) (q 0) + i) = q i) : phF f q w = ((pn (pk f) (q 0) : Nat) : Int) := by
  subst hn
  unfold phF
  rcases ff_spec (fun p => alN (fun k => decide (f (p + k) = q k)) n) (13 - n) 0 with ⟨h2, h3⟩ | ⟨m, h2, h3, h4, h5, -⟩
  · have h4 := h3 (pn (pk f) (q 0)) (Nat.zero_le _) (by omega)
    rw [al_of (fun i hi => decide_eq_true (hmt i hi))] at h4
    cases h4
  · rw [h4, ph_at hf hq hw0 (by omega) h5]
theorem ph_far (hf : Pm f) (hq : ∀ i, i < w → q i < 12) (hw0 : 0 < w) (h1 : 12 < pn (pk f) (q 0) + w) : phF f q w = -1 := by
  unfold phF
  rcases ff_spec (fun p => alN (fun k => decide (f (p + k) = q k)) w) (13 - w) 0 with ⟨h2, h3⟩ | ⟨m, h2, h3, h4, h5, -⟩
  · exact h2
  · have h6 := ph_at hf hq hw0 (show m + w ≤ 12 by omega) h5
    omega
theorem ph_no {n : Nat} (hf : Pm f) (hq : ∀ i, i < w → q i < 12) (hw0 : 0 < w) (hn : n < w) (h1 : ¬ f (pn (pk f) (q 0) + n) = q n) : phF f q w = -1 := by
  unfold phF
  rcases ff_spec (fun p => alN (fun k => decide (f (p + k) = q k)) w) (13 - w) 0 with ⟨h2, h3⟩ | ⟨m, h2, h3, h4, h5, -⟩
  · exact h2
  · have h6 := ph_at hf hq hw0 (show m + w ≤ 12 by omega) h5
    have h7 := of_decide_eq_true (al_iff.mp h5 n hn)
    rw [h6] at h7
    exact absurd h7 h1
end PH
theorem bit_or (a b t : Nat) : (a ||| b) / 2 ^ t &&& 1 = (a / 2 ^ t &&& 1) ||| (b / 2 ^ t &&& 1) := by
  apply Nat.eq_of_testBit_eq
  intro i
  simp only [Nat.testBit_and, Nat.testBit_or, Nat.testBit_div_two_pow]
  cases (1 : Nat).testBit i <;> simp
theorem tb_1 (a t : Nat) : (a / 2 ^ t &&& 1) = if a.testBit t then 1 else 0 := by
  rw [Nat.and_one_is_mod, Nat.testBit_eq_decide_div_mod_eq]
  by_cases h : a / 2 ^ t % 2 = 1
  · simp [h]
  · have h2 : a / 2 ^ t % 2 = 0 := by omega
    simp [h2]
theorem setF_bit (f : Nat → Nat) (p t : Nat) : ∀ n, (setF f p n).testBit t = orN (fun i => decide (f (p + i) = t)) n
  | 0 => by simp [setF, orN]
  | n + 1 => by
    show (setF f p n ||| 2 ^ f (p + n)).testBit t = (orN _ n || decide (f (p + n) = t))
    rw [Nat.testBit_or, setF_bit f p t n, Nat.testBit_two_pow]
theorem phs_iff {q : Nat → Nat} {w t : Nat} (hw : w ≤ 12) (hq : ∀ i, i < w → q i < 12) (ht : t < 12) : ¬ setN (pkn q w) 0 w / 2 ^ t &&& 1 = 0 ↔ orN (wtB q t) w = true := by
  have h1 : ∀ n, n ≤ w → setN (pkn q w) 0 n = setF q 0 n := by
    intro n
    induction n with
    | zero => intro _; rfl
    | succ n ih =>
      intro hn
      show setN (pkn q w) 0 n ||| 2 ^ ent (pkn q w) (0 + n) = setF q 0 n ||| 2 ^ q (0 + n)
      rw [ih (by omega), Nat.zero_add, ent_pkn (fun i hi => by have := hq i hi; omega) hw (by omega)]
  rw [h1 w (Nat.le_refl _), tb_1, setF_bit]
  have e : (fun i => decide (q (0 + i) = t)) = wtB q t := funext fun i => by rw [Nat.zero_add]; rfl
  rw [e]
  cases orN (wtB q t) w <;> simp
