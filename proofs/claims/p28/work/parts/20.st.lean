/-! ===== the class's state, and what a call makes of it ===== -/
def Gs (a0 a1 q : Nat → Nat) (w : Nat) : Prop := Pm a0 ∧ Pm a1 ∧ w ≤ 12 ∧ (∀ i, i < w → q i < 12) ∧ (∀ i j, i < w → j < w → q i = q j → i = j)
abbrev oC (o0 : Nat) (a0 a1 q : Nat → Nat) (w : Nat) : Nat × va_E := (o0, .inr (0, [.long (pk a0), .long (pk a1), .long (pkn q w), .int (iI ((w : Nat) : Int))]))
abbrev oW (o0 : Nat) (a0 a1 q : Nat → Nat) (w : Nat) : va_W := [oC o0 a0 a1 q w]
/-- an answer v, and the state behind it: the same, if v says that the class threw -/
def Rs (a0 a1 q : Nat → Nat) (w : Nat) (v : Int) (b0 b1 q' : Nat → Nat) (w' : Nat) : Prop := Gs b0 b1 q' w' ∧ (-99999 ≤ v ∧ v ≤ 1000) ∧ (v = -99999 → b0 = a0 ∧ b1 = a1 ∧ q' = q ∧ w' = w)
theorem sr0_Pm {f a0 : Nat → Nat} (r : Nat) (hf : Pm f) (h0 : Pm a0) : Pm (sr0 r f a0) := by
  unfold sr0
  split
  · exact hf
  · exact h0
theorem sr1_Pm {f a1 : Nat → Nat} (r : Nat) (hf : Pm f) (h1 : Pm a1) : Pm (sr1 r f a1) := by
  unfold sr1
  split
  · exact h1
  · exact hf
theorem putF_Pm {a : Nat → Nat} {i t : Nat} (ha : Pm a) (hi : i < 12) (ht : t < 12) : Pm (putF a i t) := by
  refine ⟨fun j hj => ?_, fun j k hj hk h => ?_⟩
  · unfold putF
    split
    · exact ht
    · split
      · exact ha.1 i hi
      · exact ha.1 j hj
  · unfold putF at h
    by_cases e1 : j = i <;> by_cases e2 : k = i
    · omega
    · rw [if_pos e1, if_neg e2] at h
      by_cases e3 : a k = t
      · rw [if_pos e3] at h
        exact absurd (ha.2 k i hk hi (by omega)) e2
      · rw [if_neg e3] at h
        omega
    · rw [if_neg e1, if_pos e2] at h
      by_cases e3 : a j = t
      · rw [if_pos e3] at h
        exact absurd (ha.2 j i hj hi (by omega)) e1
      · rw [if_neg e3] at h
        omega
    · rw [if_neg e1, if_neg e2] at h
      by_cases e3 : a j = t <;> by_cases e4 : a k = t
      · exact ha.2 j k hj hk (by omega)
      · rw [if_pos e3, if_neg e4] at h
        exact absurd (ha.2 i k hi hk h).symm e2
      · rw [if_neg e3, if_pos e4] at h
        exact absurd (ha.2 j i hj hi h) e1
      · rw [if_neg e3, if_neg e4] at h
        exact ha.2 j k hj hk h
theorem mulF_Pm {a : Nat → Nat} {f : Nat} (ha : Pm a) (hf : f = 1 ∨ f = 5 ∨ f = 7 ∨ f = 11) : Pm (mulF a f) := by
  refine ⟨mulF_lt a f, fun j k hj hk h => ha.2 j k hj hk ?_⟩
  have h1 := ha.1 j hj
  have h2 := ha.1 k hk
  unfold mulF at h
  rcases hf with rfl | rfl | rfl | rfl <;> omega
theorem rotF_Pm {a : Nat → Nat} (b : Nat) (ha : Pm a) : Pm (rotF a b) := by
  refine ⟨rotF_lt b ha.1, fun j k hj hk h => ?_⟩
  have := ha.2 _ _ (Nat.mod_lt _ (by decide)) (Nat.mod_lt _ (by decide)) (show a ((j + b) % 12) = a ((k + b) % 12) from h)
  omega
theorem ex_i (x : Int32) : ∃ z : Int, inI z ∧ x = iI z := ⟨x.toInt, ⟨Int32.le_toInt x, by have := Int32.toInt_lt x; omega⟩, (Int32.ofInt_toInt x).symm⟩
theorem inW_A {A : Nat → Prop} {w : va_W} (h : va_D A w) {q : Nat} (hq : inW w q) : A q := hq.elim fun k he => he.elim fun e hk => h.2 k (q, e) hk
theorem va_S_new {A : Nat → Prop} {H0 H H1 : Heap} {locs : List Loc} (hS : va_S A H0 H locs) (hz : H.size ≤ H1.size) (hk : ∀ q : Nat, q < H.size → H1[q]? = H[q]?) : va_S A H0 H1 locs := ⟨Nat.le_trans hS.1 hz, fun q h1 h2 => (hk q (Nat.lt_of_lt_of_le h1 hS.1)).trans (hS.2.1 q h1 h2), hS.2.2⟩
theorem va_S_nil {A : Nat → Prop} {H0 H : Heap} {locs : List Loc} (hS : va_S A H0 H locs) : va_S A H0 H [] := ⟨hS.1, hS.2.1, fun _ h => nomatch h⟩
def xG0 (s : State) : Prop := (∀ w ∈ xNw, va_Nw w s) ∧ vx_Zq Bundle.tN "UNASSIGNED_STACK" Bundle.steD (fun q => s.heap.size ≤ q) s s.heap ∧ vx_Zq Bundle.tN "SUPPRESSED_SENTINEL" Bundle.listD (fun q => s.heap.size ≤ q) s s.heap ∧ ∀ q ∈ xTX, ∃ a, vk_R RX0 q.1 q.2 a s
theorem xG0.at {s : State} {H : Heap} {locs : List Loc} (h : xG0 s) (hS : va_S (fun q => s.heap.size ≤ q) s.heap H locs) : xG s H :=
  ⟨h.1, (h.2.1.kept (fun a h1 h2 => hS.2.1 a h1 h2)).narrow (fun _ h => h.elim), (h.2.2.1.kept (fun a h1 h2 => hS.2.1 a h1 h2)).narrow (fun _ h => h.elim), h.2.2.2⟩
abbrev LA (s : State) : Nat → Prop := fun q => s.heap.size ≤ q
theorem upq_lt {q : Nat → Nat} {w t : Nat} (hq : ∀ i, i < w → q i < 12) (ht : t < 12) : ∀ i, i < w + 1 → upq q w t i < 12 := fun i hi => by
  unfold upq
  split
  · exact ht
  · exact hq i (by omega)
theorem upq_d {q : Nat → Nat} {w t : Nat} (hqd : ∀ i j, i < w → j < w → q i = q j → i = j) (hwr : ¬ orN (wtB q t) w = true) : ∀ i j, i < w + 1 → j < w + 1 → upq q w t i = upq q w t j → i = j := fun i j hi hj h => by
  have hn : ∀ i, i < w → ¬ q i = t := fun i hi e => hwr (or_iff.mpr ⟨i, hi, decide_eq_true e⟩)
  unfold upq at h
  by_cases e1 : i = w <;> by_cases e2 : j = w
  · omega
  · rw [if_pos e1, if_neg e2] at h
    exact absurd h.symm (hn j (by omega))
  · rw [if_neg e1, if_pos e2] at h
    exact absurd h (hn i (by omega))
  · rw [if_neg e1, if_neg e2] at h
    exact hqd i j (by omega) (by omega) h
theorem wr_lt {q : Nat → Nat} {w t : Nat} (hw : w ≤ 12) (hq : ∀ i, i < w → q i < 12) (hqd : ∀ i j, i < w → j < w → q i = q j → i = j) (ht : t < 12) (hwr : ¬ orN (wtB q t) w = true) : w < 12 := by
  have h := fb_holes 12 (w + 1) (upq q w t) (upq_lt hq ht) (upq_d hqd hwr)
  omega
theorem cp_G {q a K : Nat → Nat} {w : Nat} (ha : Pm a) (hq : ∀ i, i < w → q i < 12) (hqd : ∀ i j, i < w → j < w → q i = q j → i = j) : ∃ (G : Nat → Nat) (e12 : Nat), e12 = 12 ∧ Pm G ∧ pkn (cpK q a (fun _ => 0) w e12) (cpC q a w e12) = pk G ∧ ∀ i, i < 12 → cpK q a K w e12 i = G i := by
  have hC := cpC_end ha hq hqd
  obtain ⟨h1, h2, -⟩ := cp_ok (K := fun _ => 0) ha hq hqd 12 (Nat.le_refl _)
  rw [hC] at h1 h2
  refine ⟨cpK q a (fun _ => 0) w 12, 12, rfl, ⟨h1, h2⟩, by rw [hC]; rfl, fun i hi => cp_K K (fun _ => 0) 12 i (by rw [hC]; exact hi)⟩
