/-! ===== rows, forms and sets as functions ===== -/
def tb (a0 a1 : Nat → Nat) (j : Nat) : Nat := if j < 12 then a0 j else a1 (j - 12)
def rw_ (r : Nat) (a0 a1 : Nat → Nat) : Nat → Nat := if r = 0 then a0 else a1
abbrev lt12 (a : Nat → Nat) : Prop := ∀ i, i < 12 → a i < 12
theorem tb_rw (a0 a1 : Nat → Nat) {r i : Nat} (hr : r < 2) (hi : i < 12) : tb a0 a1 (12 * r + i) = rw_ r a0 a1 i := by
  unfold tb rw_
  rcases (show r = 0 ∨ r = 1 by omega) with rfl | rfl
  · rw [if_pos (by omega), if_pos rfl, show 12 * 0 + i = i by omega]
  · rw [if_neg (by omega), if_neg (by decide), show 12 * 1 + i - 12 = i by omega]
theorem rw_lt {a0 a1 : Nat → Nat} (h0 : lt12 a0) (h1 : lt12 a1) (r : Nat) {i : Nat} (hi : i < 12) : rw_ r a0 a1 i < 12 := by
  unfold rw_
  split
  · exact h0 i hi
  · exact h1 i hi
/-- at which place of the row the form's tone stands -/
def fmf (code i : Nat) : Nat := if 2 ≤ code / 12 then 11 - i else i
def fmz (a : Nat → Nat) (code i : Nat) : Int := (if code / 12 % 2 = 0 then ((a (fmf code i) : Nat) : Int) - ((a 0 : Nat) : Int) else -(((a (fmf code i) : Nat) : Int) - ((a 0 : Nat) : Int))) + ((code % 12 : Nat) : Int)
/-- a form's tone -/
def fm (a : Nat → Nat) (code i : Nat) : Nat := md (fmz a code i)
theorem fm_lt (a : Nat → Nat) (code i : Nat) : fm a code i < 12 := md_lt _
def orN (p : Nat → Bool) : Nat → Bool
  | 0 => false
  | n + 1 => orN p n || p n
def alN (p : Nat → Bool) : Nat → Bool
  | 0 => true
  | n + 1 => alN p n && p n
theorem or_1 {p : Nat → Bool} {n : Nat} (h : orN p n = true) : iI 1 = iI (bI (orN p (n + 1) = true)) := congrArg iI (bI_t (by simp [orN, h])).symm
theorem or_2 {p : Nat → Bool} {n : Nat} (h : p n = true) : iI 1 = iI (bI (orN p (n + 1) = true)) := congrArg iI (bI_t (by simp [orN, h])).symm
theorem or_0 {p : Nat → Bool} {n : Nat} (h : ¬ orN p n = true) (h2 : p n = false) : iI 0 = iI (bI (orN p (n + 1) = true)) := congrArg iI (bI_f (by simp [orN, h, h2])).symm
theorem al_1 {p : Nat → Bool} {n : Nat} (h : alN p n = true) (h2 : p n = true) : iI 1 = iI (bI (alN p (n + 1) = true)) := congrArg iI (bI_t (by simp [alN, h, h2])).symm
theorem al_0 {p : Nat → Bool} {n : Nat} (h : ¬ alN p n = true) : iI 0 = iI (bI (alN p (n + 1) = true)) := congrArg iI (bI_f (by simp [alN, h])).symm
theorem al_2 {p : Nat → Bool} {n : Nat} (h2 : p n = false) : iI 0 = iI (bI (alN p (n + 1) = true)) := congrArg iI (bI_f (by simp [alN, h2])).symm
def setF (f : Nat → Nat) (p : Nat) : Nat → Nat
  | 0 => 0
  | n + 1 => setF f p n ||| 2 ^ f (p + n)
theorem setF_lt {f : Nat → Nat} (hf : ∀ i, f i < 12) (p : Nat) : ∀ n, setF f p n < 4096
  | 0 => show 0 < 4096 by decide
  | n + 1 => Nat.or_lt_two_pow (n := 12) (setF_lt hf p n) (Nat.pow_lt_pow_right (by decide) (hf _))
/-- a set moved, or turned and moved -/
def mvN (s by' : Nat) (T : Prop) [Decidable T] : Nat → Nat
  | 0 => 0
  | n + 1 => mvN s by' T n ||| (s / 2 ^ n &&& 1) * 2 ^ md (if T then ((by' : Nat) : Int) - ((n : Nat) : Int) else ((by' : Nat) : Int) + ((n : Nat) : Int))
theorem mvN_lt (s by' : Nat) (T : Prop) [Decidable T] : ∀ n, mvN s by' T n < 4096
  | 0 => show 0 < 4096 by decide
  | n + 1 => Nat.or_lt_two_pow (n := 12) (mvN_lt s by' T n) (Nat.lt_of_le_of_lt (one_lt _ _) (Nat.pow_lt_pow_right (by decide) (md_lt _)))
def lsN (s : Nat) : Nat → Nat
  | 0 => s
  | n + 1 => min (min (lsN s n) (mvN s n False 12)) (mvN s n True 12)
theorem lsN_le (s : Nat) : ∀ n, lsN s n ≤ s
  | 0 => Nat.le_refl _
  | n + 1 => Nat.le_trans (Nat.min_le_left _ _) (Nat.le_trans (Nat.min_le_left _ _) (lsN_le s n))
/-- whether a form keeps the row's segment of length k at the place p -/
def kpB (a : Nat → Nat) (code k p : Nat) : Nat → Bool := fun o => decide (setF (fm a code) o k = setF (fm a (a 0)) p k)
def skN (a : Nat → Nat) (code k : Nat) : Nat → Nat
  | 0 => 0
  | n + 1 => if orN (kpB a code k n) (13 - k) = true then skN a code k n + 1 else skN a code k n
theorem skN_le (a : Nat → Nat) (code k : Nat) : ∀ n, skN a code k n ≤ n
  | 0 => Nat.le_refl _
  | n + 1 => by
    have h := skN_le a code k n
    unfold skN
    split <;> omega
def smN (a f : Nat → Nat) (p o : Nat) : Nat → Nat → Nat
  | 0, n => n
  | j + 1, n => if p + n < 12 ∧ o + n < 12 ∧ a (p + n) = f (o + n) then smN a f p o j (n + 1) else n
theorem smN_le (a f : Nat → Nat) (p o : Nat) : ∀ j n, smN a f p o j n ≤ n + j
  | 0, n => Nat.le_refl _
  | j + 1, n => by
    have h := smN_le a f p o j (n + 1)
    unfold smN
    split <;> omega
def eqB (a : Nat → Nat) (c d : Nat) : Nat → Bool := fun i => decide (fm a c i = fm a d i)
def wtB (q : Nat → Nat) (t : Nat) : Nat → Bool := fun i => decide (q i = t)
def phB (a q : Nat → Nat) (code p : Nat) : Nat → Bool := fun k => decide (fm a code (p + k) = q k)
/-- where the phrase begins in a form -/
def plF (a q : Nat → Nat) (code w : Nat) : Int := ff (fun p => alN (phB a q code p) w) (13 - w) 0
theorem plF_in (a q : Nat → Nat) (code w : Nat) : -1 ≤ plF a q code w ∧ plF a q code w < 14 := by
  have := ff_in (fun p => alN (phB a q code p) w) (13 - w) 0
  unfold plF
  omega
theorem skN_t {a : Nat → Nat} {code k n : Nat} (h : orN (kpB a code k n) (13 - k) = true) : skN a code k n + 1 = skN a code k (n + 1) := (if_pos h).symm
theorem skN_f {a : Nat → Nat} {code k n : Nat} (h : ¬ orN (kpB a code k n) (13 - k) = true) : skN a code k n + 0 = skN a code k (n + 1) := (if_neg h).symm
theorem smN_go {a f : Nat → Nat} {p o j n : Nat} (h : p + n < 12 ∧ o + n < 12 ∧ a (p + n) = f (o + n)) : smN a f p o (j + 1) n = smN a f p o j (n + 1) := if_pos h
theorem smN_stop {a f : Nat → Nat} {p o j n : Nat} (h : ¬ (p + n < 12 ∧ o + n < 12 ∧ a (p + n) = f (o + n))) : smN a f p o (j + 1) n = n := if_neg h
