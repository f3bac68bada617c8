/-! ===== the law's loop: what holds at its head ===== -/
/-! rows that stay rows -/
theorem sr0_Pm {f a0 : Nat → Nat} (r : Nat) (hf : Pm f) (h0 : Pm a0) : Pm (sr0 r f a0) := by
  unfold sr0
  split
  · exact hf
  · exact h0
theorem sr1_Pm {f a1 : Nat → Nat} (r : Nat) (hf : Pm f) (h1 : Pm a1) : Pm (sr1 r f a1) := by
  unfold sr1
  split
  · exact h1
  · exact hf
theorem putF_Pm {a : Nat → Nat} {i t : Nat} (ha : Pm a) (hi : i < 12) (ht : t < 12) : Pm (putF a i t) := by
  refine ⟨fun j hj => ?_, fun j k hj hk h => ?_⟩
  · unfold putF
    split
    · exact ht
    · split
      · exact ha.1 i hi
      · exact ha.1 j hj
  · unfold putF at h
    by_cases e1 : j = i <;> by_cases e2 : k = i
    · omega
    · rw [if_pos e1, if_neg e2] at h
      by_cases e3 : a k = t
      · rw [if_pos e3] at h
        exact absurd (ha.2 k i hk hi (by omega)) e2
      · rw [if_neg e3] at h
        omega
    · rw [if_neg e1, if_pos e2] at h
      by_cases e3 : a j = t
      · rw [if_pos e3] at h
        exact absurd (ha.2 j i hj hi (by omega)) e1
      · rw [if_neg e3] at h
        omega
    · rw [if_neg e1, if_neg e2] at h
      by_cases e3 : a j = t <;> by_cases e4 : a k = t
      · exact ha.2 j k hj hk (by omega)
      · rw [if_pos e3, if_neg e4] at h
        exact absurd (ha.2 i k hi hk h).symm e2
      · rw [if_neg e3, if_pos e4] at h
        exact absurd (ha.2 j i hj hi h) e1
      · rw [if_neg e3, if_neg e4] at h
        exact ha.2 j k hj hk h
theorem mulF_Pm {a : Nat → Nat} {f : Nat} (ha : Pm a) (hf : f = 1 ∨ f = 5 ∨ f = 7 ∨ f = 11) : Pm (mulF a f) := by
  refine ⟨mulF_lt a f, fun j k hj hk h => ha.2 j k hj hk ?_⟩
  have h1 := ha.1 j hj
  have h2 := ha.1 k hk
  unfold mulF at h
  rcases hf with rfl | rfl | rfl | rfl <;> omega
theorem rotF_Pm {a : Nat → Nat} (b : Nat) (ha : Pm a) : Pm (rotF a b) := by
  refine ⟨rotF_lt b ha.1, fun j k hj hk h => ?_⟩
  have := ha.2 _ _ (Nat.mod_lt _ (by decide)) (Nat.mod_lt _ (by decide)) (show a ((j + b) % 12) = a ((k + b) % 12) from h)
  omega
/-- the script's word of a turn -/
theorem and31 (x : Int32) : ∃ v : Nat, v < 32 ∧ x &&& iI 31 = iI ((v : Nat) : Int) := by
  have h : iI 31 = (31 : Int32) := by decide
  refine ⟨(x &&& 31).toInt.toNat, ?_, ?_⟩
  · have h1 : (x &&& 31).toInt < 32 ∧ 0 ≤ (x &&& 31).toInt := by
      rw [← Int32.toInt_toBitVec]
      have e : (x &&& 31).toBitVec = x.toBitVec &&& 31#32 := rfl
      rw [e]
      have h3 : (x.toBitVec &&& 31#32).toNat ≤ 31 := by
        rw [BitVec.toNat_and]
        exact Nat.and_le_right
      rw [BitVec.toInt_eq_toNat_of_lt (by omega)]
      omega
    omega
  · rw [h]
    have h1 : 0 ≤ (x &&& 31).toInt := by
      rw [← Int32.toInt_toBitVec]
      have e : (x &&& 31).toBitVec = x.toBitVec &&& 31#32 := rfl
      rw [e]
      have h3 : (x.toBitVec &&& 31#32).toNat ≤ 31 := by
        rw [BitVec.toNat_and]
        exact Nat.and_le_right
      rw [BitVec.toInt_eq_toNat_of_lt (by omega)]
      omega
    rw [Int.toNat_of_nonneg h1]
    exact (Int32.ofInt_toInt _).symm
theorem ex_i (x : Int32) : ∃ z : Int, inI z ∧ x = iI z := ⟨x.toInt, ⟨Int32.le_toInt x, by have := Int32.toInt_lt x; omega⟩, (Int32.ofInt_toInt x).symm⟩
theorem nat_of {z : Int} {k : Nat} (h : 0 ≤ z ∧ z ≤ (k : Int)) : ∃ n : Nat, n ≤ k ∧ z = (n : Int) := ⟨z.toNat, by omega, by omega⟩
theorem inW_A {A : Nat → Prop} {w : va_W} (h : va_D A w) {q : Nat} (hq : inW w q) : A q := hq.elim fun k he => he.elim fun e hk => h.2 k (q, e) hk
theorem va_S_new {A : Nat → Prop} {H0 H H1 : Heap} {locs : List Loc} (hS : va_S A H0 H locs) (hz : H.size ≤ H1.size) (hk : ∀ q : Nat, q < H.size → H1[q]? = H[q]?) : va_S A H0 H1 locs := ⟨Nat.le_trans hS.1 hz, fun q h1 h2 => (hk q (Nat.lt_of_lt_of_le h1 hS.1)).trans (hS.2.1 q h1 h2), hS.2.2⟩
theorem va_S_nil {A : Nat → Prop} {H0 H : Heap} {locs : List Loc} (hS : va_S A H0 H locs) : va_S A H0 H [] := ⟨hS.1, hS.2.1, fun _ h => nomatch h⟩
/-- what the throws need, at the law's start; it stays as long as nothing old changes -/
def xG0 (s : State) : Prop := (∀ w ∈ xNw, va_Nw w s) ∧ vx_Zq Bundle.tN "UNASSIGNED_STACK" Bundle.steD (fun q => s.heap.size ≤ q) s s.heap ∧ vx_Zq Bundle.tN "SUPPRESSED_SENTINEL" Bundle.listD (fun q => s.heap.size ≤ q) s s.heap ∧ ∀ q ∈ xTX, ∃ a, vk_R RX0 q.1 q.2 a s
theorem xG0.at {s : State} {H : Heap} {locs : List Loc} (h : xG0 s) (hS : va_S (fun q => s.heap.size ≤ q) s.heap H locs) : xG s H :=
  ⟨h.1, (h.2.1.kept (fun a h1 h2 => hS.2.1 a h1 h2)).narrow (fun _ h => h.elim), (h.2.2.1.kept (fun a h1 h2 => hS.2.1 a h1 h2)).narrow (fun _ h => h.elim), h.2.2.2⟩
abbrev LA (s : State) : Nat → Prop := fun q => s.heap.size ≤ q
/-- the law's context: the machine, the code, the words, the script -/
def LC (p : Program) (l : Launch) (s : State) (m : MethodId) (meth : Method) (c : Code) (D : va_G) (cI cJ : ClassId) (b L : Nat) (xs : Nat → Int32) : Prop :=
  p.tables.exec = Jvm.exec ∧ c.code = cL_law ∧ c.maxLocals = 8 ∧ s.vm.findClass RL = some m.cls ∧ (∀ w ∈ wsL_law, w.before #[Value.ref b] s = true) ∧ va_K D vwCl [(cJ, .long), (cI, .int)] s ∧ xG0 s ∧ xN s ∧ va_X b L xs s s.heap ∧ b < s.heap.size ∧ l.stackTraces = false
/-- the law's state at the loop's head -/
def LI (s : State) (D : va_G) (cI cJ : ClassId) (o0 u0 m0 t0 k0 p0 : Nat) (a0 a1 q K : Nat → Nat) (w : Nat) (th : Int32) (g : Nat → Int64) (H : Heap) : Prop :=
  Pm a0 ∧ Pm a1 ∧ w ≤ 12 ∧ (∀ i, i < w → q i < 12) ∧ (∀ i j, i < w → j < w → q i = q j → i = j) ∧
  va_P D vwCl ([(o0, .inr (0, [.long (pk a0), .long (pk a1), .long (pkn q w), .int (iI ((w : Nat) : Int))])), (u0, .inl (cJ, 1, .inr (.inl g)))] ++ [(m0, .inr (1, [.int th, .ref t0, .ref k0, .ref p0, .int (iI ((w : Nat) : Int))])), (t0, .inl (cI, 24, .inl (fun j => iI ((tb a0 a1 j : Nat) : Int)))), (k0, .inl (cI, 12, .inl (fun j => iI ((K j : Nat) : Int)))), (p0, .inl (cI, 12, .inl (fun j => iI ((q j : Nat) : Int))))]) H ∧
  va_D (LA s) ([(o0, .inr (0, [.long (pk a0), .long (pk a1), .long (pkn q w), .int (iI ((w : Nat) : Int))])), (u0, .inl (cJ, 1, .inr (.inl g)))] ++ [(m0, .inr (1, [.int th, .ref t0, .ref k0, .ref p0, .int (iI ((w : Nat) : Int))])), (t0, .inl (cI, 24, .inl (fun j => iI ((tb a0 a1 j : Nat) : Int)))), (k0, .inl (cI, 12, .inl (fun j => iI ((K j : Nat) : Int)))), (p0, .inl (cI, 12, .inl (fun j => iI ((q j : Nat) : Int))))]) ∧
  va_S (LA s) s.heap H []
