/-! the phrase grows; the phrase is filled up -/
theorem upq_lt {q : Nat → Nat} {w t : Nat} (hq : ∀ i, i < w → q i < 12) (ht : t < 12) : ∀ i, i < w + 1 → upq q w t i < 12 := fun i hi => by
  unfold upq
  split
  · exact ht
  · exact hq i (by omega)
theorem upq_d {q : Nat → Nat} {w t : Nat} (hqd : ∀ i j, i < w → j < w → q i = q j → i = j) (hwr : ¬ orN (wtB q t) w = true) : ∀ i j, i < w + 1 → j < w + 1 → upq q w t i = upq q w t j → i = j := fun i j hi hj h => by
  have hn : ∀ i, i < w → ¬ q i = t := fun i hi e => hwr (or_iff.mpr ⟨i, hi, decide_eq_true e⟩)
  unfold upq at h
  by_cases e1 : i = w <;> by_cases e2 : j = w
  · omega
  · rw [if_pos e1, if_neg e2] at h
    exact absurd h.symm (hn j (by omega))
  · rw [if_neg e1, if_pos e2] at h
    exact absurd h (hn i (by omega))
  · rw [if_neg e1, if_neg e2] at h
    exact hqd i j (by omega) (by omega) h
theorem wr_lt {q : Nat → Nat} {w t : Nat} (hw : w ≤ 12) (hq : ∀ i, i < w → q i < 12) (hqd : ∀ i j, i < w → j < w → q i = q j → i = j) (ht : t < 12) (hwr : ¬ orN (wtB q t) w = true) : w < 12 := by
  have h := fb_holes 12 (w + 1) (upq q w t) (upq_lt hq ht) (upq_d hqd hwr)
  omega
theorem cp_G {q a K : Nat → Nat} {w : Nat} (ha : Pm a) (hq : ∀ i, i < w → q i < 12) (hqd : ∀ i j, i < w → j < w → q i = q j → i = j) : ∃ (G : Nat → Nat) (e12 : Nat), e12 = 12 ∧ Pm G ∧ pkn (cpK q a (fun _ => 0) w e12) (cpC q a w e12) = pk G ∧ ∀ i, i < 12 → cpK q a K w e12 i = G i := by
  have hC := cpC_end ha hq hqd
  obtain ⟨h1, h2, -⟩ := cp_ok (K := fun _ => 0) ha hq hqd 12 (Nat.le_refl _)
  rw [hC] at h1 h2
  refine ⟨cpK q a (fun _ => 0) w 12, 12, rfl, ⟨h1, h2⟩, by rw [hC]; rfl, fun i hi => cp_K K (fun _ => 0) 12 i (by rw [hC]; exact hi)⟩
