/-! ===== what the calls do with rows ===== -/
theorem nar_0 : narrow .boolean (.int (iI 0)) = .int (iI 0) := by first | rfl | decide
def sr0 (r : Nat) (f a0 : Nat → Nat) : Nat → Nat := if r = 0 then f else a0
def sr1 (r : Nat) (f a1 : Nat → Nat) : Nat → Nat := if r = 0 then a1 else f
theorem rw_sr (f a0 a1 : Nat → Nat) (r : Nat) : rw_ r (sr0 r f a0) (sr1 r f a1) = f := by
  unfold rw_ sr0 sr1
  by_cases h : r = 0 <;> simp [h]
theorem sr0_lt {f a0 : Nat → Nat} (r : Nat) (hf : lt12 f) (h0 : lt12 a0) : lt12 (sr0 r f a0) := by
  unfold sr0
  split
  · exact hf
  · exact h0
theorem sr1_lt {f a1 : Nat → Nat} (r : Nat) (hf : lt12 f) (h1 : lt12 a1) : lt12 (sr1 r f a1) := by
  unfold sr1
  split
  · exact h1
  · exact hf
def mx (G a : Nat → Nat) (n j : Nat) : Nat := if j < n then G j else a j
theorem mx_lt {G a : Nat → Nat} (n : Nat) (hG : lt12 G) (ha : lt12 a) : lt12 (mx G a n) := fun i hi => by
  unfold mx
  split
  · exact hG i hi
  · exact ha i hi
theorem mx_0 (G a : Nat → Nat) : mx G a 0 = a := funext fun j => if_neg (Nat.not_lt_zero j)
theorem mx_in {G a : Nat → Nat} {n j : Nat} (h : j < n) : mx G a n j = G j := if_pos h
theorem mx_out {G a : Nat → Nat} {n j : Nat} (h : n ≤ j) : mx G a n j = a j := if_neg (by omega)
theorem mx_st {G a : Nat → Nat} {n j : Nat} : (if j = n then iI ((G n : Nat) : Int) else iI ((mx G a n j : Nat) : Int)) = iI ((mx G a (n + 1) j : Nat) : Int) := by
  by_cases h : j = n
  · rw [if_pos h, mx_in (by omega), h]
  · rw [if_neg h]
    by_cases h2 : j < n
    · rw [mx_in h2, mx_in (by omega)]
    · rw [mx_out (by omega), mx_out (by omega)]
theorem rw_lt12 {a0 a1 : Nat → Nat} (h0 : lt12 a0) (h1 : lt12 a1) (r : Nat) : lt12 (rw_ r a0 a1) := fun i hi => rw_lt h0 h1 r hi
/-- one tone of the row r is put anew -/
theorem tb_st {G a0 a1 : Nat → Nat} {r n j : Nat} (hr : r < 2) (hn : n < 12) (hj : j < 24) :
    (if j = 12 * r + n then iI ((G n : Nat) : Int) else iI ((tb (sr0 r (mx G (rw_ r a0 a1) n) a0) (sr1 r (mx G (rw_ r a0 a1) n) a1) j : Nat) : Int)) = iI ((tb (sr0 r (mx G (rw_ r a0 a1) (n + 1)) a0) (sr1 r (mx G (rw_ r a0 a1) (n + 1)) a1) j : Nat) : Int) := by
  have e : (if j = 12 * r + n then G n else tb (sr0 r (mx G (rw_ r a0 a1) n) a0) (sr1 r (mx G (rw_ r a0 a1) n) a1) j) = tb (sr0 r (mx G (rw_ r a0 a1) (n + 1)) a0) (sr1 r (mx G (rw_ r a0 a1) (n + 1)) a1) j := by
    unfold tb sr0 sr1 mx
    rcases (show r = 0 ∨ r = 1 by omega) with rfl | rfl
    · by_cases h1 : j < 12
      · simp only [if_pos h1, if_true]
        by_cases h2 : j = n
        · rw [if_pos (by omega), if_pos (by omega), h2]
        · rw [if_neg (by omega)]
          by_cases h3 : j < n
          · rw [if_pos h3, if_pos (by omega)]
          · rw [if_neg h3, if_neg (by omega)]
      · simp only [if_neg h1, if_true]
        rw [if_neg (by omega)]
    · by_cases h1 : j < 12
      · simp only [if_pos h1, if_neg (show ¬ (1 : Nat) = 0 by decide)]
        rw [if_neg (by omega)]
      · simp only [if_neg h1, if_neg (show ¬ (1 : Nat) = 0 by decide)]
        by_cases h2 : j - 12 = n
        · rw [if_pos (by omega), if_pos (by omega), h2]
        · rw [if_neg (by omega)]
          by_cases h3 : j - 12 < n
          · rw [if_pos h3, if_pos (by omega)]
          · rw [if_neg h3, if_neg (by omega)]
  rw [← e]
  split <;> rfl
theorem tb_cg {f g a0 a1 : Nat → Nat} {r j : Nat} (h : ∀ i, i < 12 → f i = g i) (hj : j < 24) : iI ((tb (sr0 r f a0) (sr1 r f a1) j : Nat) : Int) = iI ((tb (sr0 r g a0) (sr1 r g a1) j : Nat) : Int) := by
  have e : tb (sr0 r f a0) (sr1 r f a1) j = tb (sr0 r g a0) (sr1 r g a1) j := by
    unfold tb sr0 sr1
    by_cases h0 : r = 0
    · simp only [if_pos h0]
      by_cases h1 : j < 12
      · simp only [if_pos h1]; exact h j h1
      · simp only [if_neg h1]
    · simp only [if_neg h0]
      by_cases h1 : j < 12
      · simp only [if_pos h1]
      · simp only [if_neg h1]; exact h _ (by omega)
  rw [e]
theorem tb_in {G a0 a1 : Nat → Nat} {r j : Nat} (hj : j < 24) : iI ((tb a0 a1 j : Nat) : Int) = iI ((tb (sr0 r (mx G (rw_ r a0 a1) 0) a0) (sr1 r (mx G (rw_ r a0 a1) 0) a1) j : Nat) : Int) := by
  rw [mx_0]
  have e : tb a0 a1 j = tb (sr0 r (rw_ r a0 a1) a0) (sr1 r (rw_ r a0 a1) a1) j := by
    unfold tb sr0 sr1 rw_
    by_cases h0 : r = 0 <;> simp [h0]
  rw [e]
def putF (a : Nat → Nat) (i t j : Nat) : Nat := if j = i then t else if a j = t then a i else a j
def ptF (a : Nat → Nat) (i t j : Nat) : Nat := if a j = t then a i else a j
theorem ptF_lt {a : Nat → Nat} {i t : Nat} (ha : lt12 a) (hi : i < 12) : lt12 (ptF a i t) := fun j hj => by
  unfold ptF
  split
  · exact ha i hi
  · exact ha j hj
/-- the last store of put -/
theorem tb_pt {a0 a1 : Nat → Nat} {r i t n j : Nat} (hn : n = 12) (hr : r < 2) (hi : i < 12) (hj : j < 24) :
    (if j = 12 * r + i then iI ((t : Nat) : Int) else iI ((tb (sr0 r (mx (ptF (rw_ r a0 a1) i t) (rw_ r a0 a1) n) a0) (sr1 r (mx (ptF (rw_ r a0 a1) i t) (rw_ r a0 a1) n) a1) j : Nat) : Int)) = iI ((tb (sr0 r (putF (rw_ r a0 a1) i t) a0) (sr1 r (putF (rw_ r a0 a1) i t) a1) j : Nat) : Int) := by
  subst hn
  have e : (if j = 12 * r + i then t else tb (sr0 r (mx (ptF (rw_ r a0 a1) i t) (rw_ r a0 a1) 12) a0) (sr1 r (mx (ptF (rw_ r a0 a1) i t) (rw_ r a0 a1) 12) a1) j) = tb (sr0 r (putF (rw_ r a0 a1) i t) a0) (sr1 r (putF (rw_ r a0 a1) i t) a1) j := by
    unfold tb sr0 sr1 mx putF ptF
    rcases (show r = 0 ∨ r = 1 by omega) with rfl | rfl
    · by_cases h1 : j < 12
      · simp only [if_pos h1, if_true]
        by_cases h2 : j = i
        · rw [if_pos (by omega), if_pos h2]
        · rw [if_neg (by omega), if_neg h2]
      · simp only [if_neg h1, if_true]
        rw [if_neg (by omega)]
    · by_cases h1 : j < 12
      · simp only [if_pos h1, if_neg (show ¬ (1 : Nat) = 0 by decide)]
        rw [if_neg (by omega)]
      · simp only [if_neg h1, if_neg (show ¬ (1 : Nat) = 0 by decide), if_pos (show j - 12 < 12 by omega)]
        by_cases h2 : j - 12 = i
        · rw [if_pos (by omega), if_pos h2]
        · rw [if_neg (by omega), if_neg h2]
  rw [← e]
  split <;> rfl
def mulF (a : Nat → Nat) (f j : Nat) : Nat := a j * f % 12
def rotF (a : Nat → Nat) (b j : Nat) : Nat := a ((j + b) % 12)
theorem mulF_lt (a : Nat → Nat) (f : Nat) : lt12 (mulF a f) := fun _ _ => Nat.mod_lt _ (by decide)
theorem rotF_lt {a : Nat → Nat} (b : Nat) (ha : lt12 a) : lt12 (rotF a b) := fun _ _ => ha _ (Nat.mod_lt _ (by decide))
theorem fm_lt12 (a : Nat → Nat) (c : Nat) : lt12 (fm a c) := fun _ _ => fm_lt a c _
def ivsN (a : Nat → Nat) : Nat → Nat
  | 0 => 0
  | n + 1 => ivsN a n ||| 2 ^ md (((a (n + 1) : Nat) : Int) - ((a n : Nat) : Int))
theorem ivsN_lt (a : Nat → Nat) : ∀ n, ivsN a n < 4096
  | 0 => show 0 < 4096 by decide
  | n + 1 => Nat.or_lt_two_pow (n := 12) (ivsN_lt a n) (Nat.pow_lt_pow_right (by decide) (md_lt _))
def nwB (a : Nat → Nat) (n : Nat) : Nat → Bool := fun o => !(alN (eqB a o n) 12)
def dfN (a : Nat → Nat) : Nat → Nat
  | 0 => 0
  | n + 1 => if alN (nwB a n) n = true then dfN a n + 1 else dfN a n
theorem dfN_le (a : Nat → Nat) : ∀ n, dfN a n ≤ n
  | 0 => Nat.le_refl _
  | n + 1 => by
    have h := dfN_le a n
    unfold dfN
    split <;> omega
theorem dfN_t {a : Nat → Nat} {n : Nat} (h : alN (nwB a n) n = true) : dfN a n + 1 = dfN a (n + 1) := (if_pos h).symm
theorem dfN_f {a : Nat → Nat} {n : Nat} (h : ¬ alN (nwB a n) n = true) : dfN a n + 0 = dfN a (n + 1) := (if_neg h).symm
def foB (a b : Nat → Nat) (c : Nat) : Nat → Bool := fun i => decide (fm a c i = b i)
def foF (a b : Nat → Nat) : Int := ff (fun c => alN (foB a b c) 12) 48 0
def prI (s i t : Nat) (x : Nat) : Nat → Nat
  | 0 => x
  | n + 1 => if (t : Int) - (n : Int) = (i : Int) ∨ (t : Int) - (n : Int) = 12 - (i : Int) then prI s i t x n + (s / 2 ^ t &&& s / 2 ^ n &&& 1) else prI s i t x n
def prO (s i : Nat) : Nat → Nat
  | 0 => 0
  | n + 1 => prI s i n (prO s i n) n
theorem prI_le (s i t x : Nat) : ∀ n, prI s i t x n ≤ x + n
  | 0 => Nat.le_refl _
  | n + 1 => by
    have h := prI_le s i t x n
    have h2 := Nat.and_le_right (n := s / 2 ^ t &&& s / 2 ^ n) (m := 1)
    unfold prI
    split <;> omega
theorem prO_le (s i : Nat) : ∀ n, prO s i n ≤ 12 * n + n * n
  | 0 => Nat.zero_le _
  | n + 1 => by
    have h := prO_le s i n
    have h2 := prI_le s i n (prO s i n) n
    have h3 : (n + 1) * (n + 1) = n * n + 2 * n + 1 := by rw [Nat.add_mul, Nat.mul_add]; omega
    unfold prO
    omega
theorem prO_lt (s i n : Nat) (hn : n ≤ 12) : prO s i n ≤ 288 := by
  have h := prO_le s i n
  have h2 : n * n ≤ 12 * 12 := Nat.mul_le_mul hn hn
  omega
def bitL (n : Nat) : Int64 := (1 : Int64) <<< ((iI ((n : Nat) : Int)).toInt64 &&& 63)
def cmL (a : Nat → Nat) : Nat → Int64
  | 0 => 0
  | n + 1 => if setF (fm a (a 0)) 0 6 &&& setF (fm a n) 0 6 = 0 then cmL a n ||| bitL n else cmL a n ||| 0
def deB (a : Nat → Nat) (z : Nat) : Nat → Bool := fun m => decide (lsN (setF (fm a (a 0)) (z * m) z) 12 = lsN (setF (fm a (a 0)) 0 z) 12)
def lkI (a f : Nat → Nat) (p x : Nat) : Nat → Nat
  | 0 => x
  | n + 1 => if lkI a f p x n < smN a f p n 12 0 then smN a f p n 12 0 else lkI a f p x n
def lkO (a f : Nat → Nat) : Nat → Nat
  | 0 => 0
  | n + 1 => lkI a f n (lkO a f n) 12
theorem lkI_le {a f : Nat → Nat} {p x : Nat} (hx : x ≤ 12) : ∀ n, lkI a f p x n ≤ 12
  | 0 => hx
  | n + 1 => by
    have h := lkI_le (a := a) (f := f) (p := p) hx n
    have h2 := smN_le a f p n 12 0
    unfold lkI
    split <;> omega
theorem lkO_le (a f : Nat → Nat) : ∀ n, lkO a f n ≤ 12
  | 0 => show 0 ≤ 12 by decide
  | n + 1 => lkI_le (lkO_le a f n) 12
def mkV (a : Nat → Nat) (k n : Nat) : Int := if n = a 0 then -1 else ((skN a n k (13 - k) : Nat) : Int)
def mkM (a : Nat → Nat) (k : Nat) : Nat → Int
  | 0 => -1
  | n + 1 => if mkM a k n < mkV a k n then mkV a k n else mkM a k n
def mkC (a : Nat → Nat) (k : Nat) : Nat → Int
  | 0 => -1
  | n + 1 => if mkM a k n < mkV a k n then (n : Int) else mkC a k n
theorem mkV_in (a : Nat → Nat) (k n : Nat) : -1 ≤ mkV a k n ∧ mkV a k n ≤ 13 := by
  have h := skN_le a n k (13 - k)
  unfold mkV
  split <;> omega
theorem mkM_in (a : Nat → Nat) (k : Nat) : ∀ n, -1 ≤ mkM a k n ∧ mkM a k n ≤ 13
  | 0 => ⟨show (-1 : Int) ≤ -1 by decide, show (-1 : Int) ≤ 13 by decide⟩
  | n + 1 => by
    have h := mkM_in a k n
    have h2 := mkV_in a k n
    unfold mkM
    split <;> omega
theorem mkC_in (a : Nat → Nat) (k : Nat) : ∀ n, -1 ≤ mkC a k n ∧ mkC a k n < n ∨ mkC a k n = -1
  | 0 => Or.inr rfl
  | n + 1 => by
    have h := mkC_in a k n
    unfold mkC
    split <;> omega
def ctN (f g : Nat → Nat) : Nat → Nat
  | 0 => 0
  | n + 1 => if setF f 0 n ||| setF g 0 (12 - n) = 4095 then ctN f g n ||| 2 ^ n else ctN f g n ||| 0
theorem ctN_lt (f g : Nat → Nat) : ∀ n, n ≤ 13 → ctN f g n < 8192
  | 0, _ => show 0 < 8192 by decide
  | n + 1, hn => by
    have h := ctN_lt f g n (by omega)
    unfold ctN
    split
    · exact Nat.or_lt_two_pow (n := 13) h (Nat.pow_lt_pow_right (by decide) (by omega))
    · exact Nat.or_lt_two_pow (n := 13) h (by decide)
def upq (q : Nat → Nat) (w t j : Nat) : Nat := if j = w then t else q j
def fpL (a q : Nat → Nat) (w : Nat) : Nat → Int64
  | 0 => 0
  | n + 1 => if plF a q n w = -1 then fpL a q w n ||| 0 else fpL a q w n ||| bitL n
def cpC (q a : Nat → Nat) (w : Nat) : Nat → Nat
  | 0 => w
  | n + 1 => if orN (wtB q (a n)) w = true then cpC q a w n else cpC q a w n + 1
def cpK (q a K : Nat → Nat) (w : Nat) : Nat → Nat → Nat
  | 0 => mx q K w
  | n + 1 => if orN (wtB q (a n)) w = true then cpK q a K w n else upq (cpK q a K w n) (cpC q a w n) (a n)
def cpF (q a : Nat → Nat) (w : Nat) : Nat → Nat := cpK q a (fun _ => 0) w 12
theorem cpC_le (q a : Nat → Nat) (w : Nat) : ∀ n, cpC q a w n ≤ w + n
  | 0 => Nat.le_refl _
  | n + 1 => by
    have h := cpC_le q a w n
    unfold cpC
    split <;> omega
theorem dv12 {z : Int} (h1 : 1 ≤ z) (h2 : z ≤ 12) (h : 12 % z = 0) : z = 1 ∨ z = 2 ∨ z = 3 ∨ z = 4 ∨ z = 6 ∨ z = 12 := by
  have h3 : z = 1 ∨ z = 2 ∨ z = 3 ∨ z = 4 ∨ z = 5 ∨ z = 6 ∨ z = 7 ∨ z = 8 ∨ z = 9 ∨ z = 10 ∨ z = 11 ∨ z = 12 := by omega
  rcases h3 with rfl | rfl | rfl | rfl | rfl | rfl | rfl | rfl | rfl | rfl | rfl | rfl <;> first | omega | (revert h; decide)
theorem hai_t {a : Nat → Nat} {n : Nat} (h : n = 11) (c : ((ivsN a n : Nat) : Int) = 4094) : bI (ivsN a 11 = 4094) = 1 := bI_t (by subst h; omega)
theorem hai_f {a : Nat → Nat} {n : Nat} (h : n = 11) (c : ¬ ((ivsN a n : Nat) : Int) = 4094) : bI (ivsN a 11 = 4094) = 0 := bI_f (by subst h; omega)
theorem and0_t {x : Nat} (h : ((x : Nat) : Int) = 0) : x = 0 := by omega
theorem and0_f {x : Nat} (h : ¬ ((x : Nat) : Int) = 0) : ¬ x = 0 := by omega
