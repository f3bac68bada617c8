theorem va_D_app {A B : Nat → Prop} {w1 w2 : va_W} (h1 : va_D A w1) (h2 : va_D B w2) (hBA : ∀ q, B q → A q) (hne : ∀ (k : Nat) (q : Nat × va_E), w1[k]? = some q → ¬ B q.1) : va_D A (w1 ++ w2) := by
  refine ⟨fun i j p q hi hj hpq => ?_, fun k q hk => ?_⟩
  · by_cases hi1 : i < w1.length <;> by_cases hj1 : j < w1.length
    · rw [List.getElem?_append_left hi1] at hi
      rw [List.getElem?_append_left hj1] at hj
      exact h1.1 i j p q hi hj hpq
    · rw [List.getElem?_append_left hi1] at hi
      rw [List.getElem?_append_right (by omega)] at hj
      exact absurd (by rw [hpq]; exact h2.2 _ q hj) (hne i p hi)
    · rw [List.getElem?_append_right (by omega)] at hi
      rw [List.getElem?_append_left hj1] at hj
      exact absurd (by rw [← hpq]; exact h2.2 _ p hi) (hne j q hj)
    · rw [List.getElem?_append_right (by omega)] at hi hj
      have := h2.1 _ _ p q hi hj hpq
      omega
  · by_cases hk1 : k < w1.length
    · rw [List.getElem?_append_left hk1] at hk
      exact h1.2 k q hk
    · rw [List.getElem?_append_right (by omega)] at hk
      exact hBA _ (h2.2 _ q hk)
