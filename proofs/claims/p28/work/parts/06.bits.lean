/-! ===== longs as sixteen digits; ints as sets ===== -/
theorem nx_and (a b : Nat) : nI a &&& nI b = nI (a &&& b) := by
  apply Int32.toBitVec_inj.1
  show BitVec.ofNat 32 a &&& BitVec.ofNat 32 b = BitVec.ofNat 32 (a &&& b)
  apply BitVec.eq_of_getLsbD_eq
  intro i hi
  simp [hi]
theorem nx_or (a b : Nat) : nI a ||| nI b = nI (a ||| b) := by
  apply Int32.toBitVec_inj.1
  show BitVec.ofNat 32 a ||| BitVec.ofNat 32 b = BitVec.ofNat 32 (a ||| b)
  apply BitVec.eq_of_getLsbD_eq
  intro i hi
  simp [hi]
theorem nx_sl : ∀ n, n < 32 → ((nI n &&& 31).toBitVec.smod 32).toNat = n := by decide +kernel
theorem nx_su : ∀ n, n < 32 → (((nI n).toUInt32 &&& Int32.toUInt32 31).toBitVec % 32).toNat = n := by decide +kernel
theorem ir_or (a b : Nat) : iI ((a : Nat) : Int) ||| iI ((b : Nat) : Int) = iI ((a ||| b : Nat) : Int) := by rw [iI_nat, iI_nat, iI_nat, nx_or]
theorem ir_and (a b : Nat) : iI ((a : Nat) : Int) &&& iI ((b : Nat) : Int) = iI ((a &&& b : Nat) : Int) := by rw [iI_nat, iI_nat, iI_nat, nx_and]
theorem ir_shl {a k : Nat} (hk : k < 32) (h : a * 2 ^ k < 4294967296) : iI ((a : Nat) : Int) <<< (iI ((k : Nat) : Int) &&& 31) = iI ((a * 2 ^ k : Nat) : Int) := by
  rw [iI_nat, iI_nat, iI_nat]
  exact pk_shlN _ k (nx_sl k hk) (by omega)
theorem ir_shl1 {k : Nat} (hk : k < 31) : iI 1 <<< (iI ((k : Nat) : Int) &&& 31) = iI ((2 ^ k : Nat) : Int) := by
  have h : (2 : Nat) ^ k < 2 ^ 31 := Nat.pow_lt_pow_right (by decide) hk
  have h2 := ir_shl (a := 1) (k := k) (by omega) (by omega)
  rw [Nat.one_mul] at h2
  exact h2
theorem ir_shr {a k : Nat} (hk : k < 32) (h : a < 2147483648) : iI ((a : Nat) : Int) >>> (iI ((k : Nat) : Int) &&& 31) = iI ((a / 2 ^ k : Nat) : Int) := by
  rw [iI_nat, iI_nat, iI_nat]
  exact pk_shrN (by omega) _ k (nx_sl k hk)
theorem ir_ushr {a k : Nat} (hk : k < 32) (h : a < 4294967296) : ((iI ((a : Nat) : Int)).toUInt32 >>> ((iI ((k : Nat) : Int)).toUInt32 &&& Int32.toUInt32 31)).toInt32 = iI ((a / 2 ^ k : Nat) : Int) := by
  rw [iI_nat, iI_nat, iI_nat]
  exact pk_ushrN (by omega) _ k (nx_su k hk)
def uN (x : Int64) : Nat := x.toUInt64.toNat
theorem uN_lt (x : Int64) : uN x < 18446744073709551616 := x.toUInt64.toNat_lt
theorem uN_inj {x y : Int64} (h : uN x = uN y) : x = y := congrArg UInt64.toInt64 (UInt64.toNat_inj.mp h)
theorem uN_shr (x : Int64) (s : UInt64) : uN (x.toUInt64 >>> s).toInt64 = uN x / 2 ^ (s.toNat % 64) := by
  show (x.toUInt64 >>> s).toNat = _
  rw [UInt64.toNat_shiftRight, Nat.shiftRight_eq_div_pow]
  rfl
theorem uN_sk (x : Int64) {k : Nat} (hk : k < 64) : uN (x.toUInt64 >>> ((nI k).toInt64.toUInt64 &&& Int64.toUInt64 63)).toInt64 = uN x / 2 ^ k := by
  have h : ((nI k).toInt64.toUInt64 &&& Int64.toUInt64 63).toNat % 64 = k := by
    rw [nI_l (by omega), UInt64.toNat_and]
    have e : (lN k).toUInt64.toNat = k % 2 ^ 64 := rfl
    have e2 : (Int64.toUInt64 63).toNat = 2 ^ 6 - 1 := by decide
    rw [e, e2, Nat.and_two_pow_sub_one_eq_mod]
    omega
  rw [uN_shr, h]
theorem nx_sll : ∀ n, n < 64 → (((nI n).toInt64 &&& 63).toBitVec.smod 64).toNat = n := by decide +kernel
theorem uN_slk (x : Int64) {k : Nat} (hk : k < 64) : uN (x <<< ((nI k).toInt64 &&& 63)) = (uN x * 2 ^ k) % 18446744073709551616 := by
  show (x.toBitVec <<< (((nI k).toInt64 &&& 63).toBitVec.smod 64).toNat).toNat = _
  rw [nx_sll k hk, BitVec.toNat_shiftLeft, Nat.shiftLeft_eq]
  rfl
theorem uN_and (x y : Int64) : uN (x &&& y) = uN x &&& uN y := UInt64.toNat_and _ _
theorem uN_or (x y : Int64) : uN (x ||| y) = uN x ||| uN y := UInt64.toNat_or _ _
theorem uN_xor (x y : Int64) : uN (x ^^^ y) = uN x ^^^ uN y := UInt64.toNat_xor _ _
theorem uN_lN {k : Nat} (h : k < 18446744073709551616) : uN (lN k) = k := by
  show (UInt64.ofNat k).toNat = k
  rw [UInt64.toNat_ofNat']
  exact Nat.mod_eq_of_lt h
theorem uN_of (x : Int64) : x = lN (uN x) := uN_inj (uN_lN (uN_lt x)).symm
theorem iI_min {a b : Int} (ha : inI a) (hb : inI b) : (if iI b < iI a then iI b else iI a) = iI (min a b) := by
  by_cases h : b < a
  · rw [if_pos ((iI_lt hb ha).mpr h), Int.min_eq_right (Int.le_of_lt h)]
  · rw [if_neg (fun q => h ((iI_lt hb ha).mp q)), Int.min_eq_left (Int.not_lt.mp h)]
theorem iI_max {a b : Int} (ha : inI a) (hb : inI b) : (if iI a < iI b then iI b else iI a) = iI (max a b) := by
  by_cases h : a < b
  · rw [if_pos ((iI_lt ha hb).mpr h), Int.max_eq_right (Int.le_of_lt h)]
  · rw [if_neg (fun q => h ((iI_lt ha hb).mp q)), Int.max_eq_left (Int.not_lt.mp h)]
/-- the digit of a long at a place -/
def ent (x : Int64) (i : Nat) : Nat := uN x / 2 ^ (4 * i) % 16
theorem ent_lt (x : Int64) (i : Nat) : ent x i < 16 := Nat.mod_lt _ (by decide)
theorem ent_raw (x : Int64) {i : Nat} (h : i < 16) : ((x.toUInt64 >>> ((iI ((4 * i : Nat) : Int)).toInt64.toUInt64 &&& Int64.toUInt64 63)).toInt64 &&& (15 : Int64)).toInt32 = iI ((ent x i : Nat) : Int) := by
  rw [iI_nat, iI_nat]
  generalize hy : (x.toUInt64 >>> ((nI (4 * i)).toInt64.toUInt64 &&& Int64.toUInt64 63)).toInt64 = y
  have h1 : uN y = uN x / 2 ^ (4 * i) := by rw [← hy]; exact uN_sk x (by omega)
  have h2 : y &&& (15 : Int64) = lN (uN y % 16) := by
    apply uN_inj
    rw [uN_and, uN_lN (by omega), show uN (15 : Int64) = 2 ^ 4 - 1 from by decide, Nat.and_two_pow_sub_one_eq_mod]
  rw [h2, lN_i, h1]
  rfl
theorem ent_bit (x : Int64) (i b : Nat) : (ent x i).testBit b = (decide (b < 4) && (uN x).testBit (4 * i + b)) := by
  unfold ent
  rw [show (16 : Nat) = 2 ^ 4 from rfl, Nat.testBit_mod_two_pow, Nat.testBit_div_two_pow, Nat.add_comm b]
theorem uN_ext {x y : Int64} (h : ∀ k, k < 64 → (uN x).testBit k = (uN y).testBit k) : x = y := by
  apply uN_inj
  apply Nat.eq_of_testBit_eq
  intro k
  by_cases hk : k < 64
  · exact h k hk
  · have b : ∀ z : Int64, (uN z).testBit k = false := fun z => Nat.testBit_lt_two_pow (Nat.lt_of_lt_of_le (uN_lt z) (Nat.pow_le_pow_right (n := 2) (by decide) (show 64 ≤ k by omega)))
    rw [b, b]
/-- a long is its sixteen digits -/
theorem ent_ext {x y : Int64} (h : ∀ i, i < 16 → ent x i = ent y i) : x = y := by
  apply uN_ext
  intro k hk
  have h1 := congrArg (fun n => Nat.testBit n (k % 4)) (h (k / 4) (by omega))
  simp only [ent_bit] at h1
  rw [show 4 * (k / 4) + k % 4 = k by omega] at h1
  have h2 : k % 4 < 4 := Nat.mod_lt _ (by decide)
  simpa [h2] using h1
/-- withEntry, as the machine does it -/
def we (x : Int64) (i t : Nat) : Int64 := (x &&& (((15 : Int64) <<< ((iI ((4 * i : Nat) : Int)).toInt64 &&& 63)) ^^^ (-1 : Int64))) ||| ((iI ((t : Nat) : Int)).toInt64 <<< ((iI ((4 * i : Nat) : Int)).toInt64 &&& 63))
theorem nx_tb {a n k : Nat} (h : a < 2 ^ n) (hk : n ≤ k) : a.testBit k = false := Nat.testBit_lt_two_pow (Nat.lt_of_lt_of_le h (Nat.pow_le_pow_right (by decide) hk))
theorem uN_m1 : uN (-1 : Int64) = 2 ^ 64 - 1 := by decide
theorem we_bit (x : Int64) {i t k : Nat} (hi : i < 16) (ht : t < 16) (hk : k < 64) : (uN (we x i t)).testBit k = if 4 * i ≤ k ∧ k < 4 * i + 4 then t.testBit (k - 4 * i) else (uN x).testBit k := by
  unfold we
  have ht64 : (iI ((t : Nat) : Int)).toInt64 = lN t := by rw [iI_nat]; exact nI_l (by omega)
  rw [uN_or, uN_and, uN_xor, ht64, iI_nat, uN_slk _ (by omega), uN_slk _ (by omega), uN_lN (by omega), uN_m1, show (18446744073709551616 : Nat) = 2 ^ 64 from rfl, show uN (15 : Int64) = 15 from by decide]
  simp only [Nat.testBit_or, Nat.testBit_and, Nat.testBit_xor, Nat.testBit_mod_two_pow, Nat.testBit_two_pow_sub_one, Nat.testBit_mul_two_pow, hk, decide_true, Bool.true_and]
  by_cases h1 : 4 * i ≤ k
  · by_cases h2 : k < 4 * i + 4
    · have h3 : (15 : Nat).testBit (k - 4 * i) = true := by
        obtain ⟨b, hb, hb4⟩ : ∃ b, k - 4 * i = b ∧ b < 4 := ⟨_, rfl, by omega⟩
        rw [hb]
        have : ∀ b, b < 4 → (15 : Nat).testBit b = true := by decide
        exact this b hb4
      simp [h1, h2, h3]
    · have h3 : (15 : Nat).testBit (k - 4 * i) = false := nx_tb (n := 4) (by decide) (by omega)
      have h4 : t.testBit (k - 4 * i) = false := nx_tb (n := 4) ht (by omega)
      simp [h1, h2, h3, h4]
  · simp [h1]
theorem ent_we (x : Int64) {i t j : Nat} (hi : i < 16) (ht : t < 16) (hj : j < 16) : ent (we x i t) j = if j = i then t else ent x j := by
  apply Nat.eq_of_testBit_eq
  intro b
  rw [ent_bit]
  by_cases hb : b < 4
  · rw [we_bit x hi ht (by omega)]
    by_cases hji : j = i
    · subst hji
      rw [if_pos ⟨by omega, by omega⟩, if_pos rfl, show 4 * j + b - 4 * j = b by omega]
      simp [hb]
    · rw [if_neg (by omega), if_neg hji, ent_bit]
  · have h1 : (if j = i then t else ent x j) < 2 ^ 4 := by
      split
      · exact ht
      · exact ent_lt x j
    rw [nx_tb h1 (by omega)]
    simp [hb]
theorem ent_0 (j : Nat) : ent 0 j = 0 := by
  unfold ent
  rw [show uN (0 : Int64) = 0 from by decide, Nat.zero_div]
def md (z : Int) : Nat := (z % 12).toNat
theorem md_lt (z : Int) : md z < 12 := by unfold md; omega
theorem md_eq (z : Int) : ((md z : Nat) : Int) = z % 12 := by unfold md; omega
/-- the first that is so, or NONE -/
def ff (p : Nat → Bool) : Nat → Nat → Int
  | 0, _ => -1
  | j + 1, n => if p n then (n : Int) else ff p j (n + 1)
theorem ff_t {p : Nat → Bool} {j n : Nat} (h : p n = true) : ff p (j + 1) n = (n : Int) := by simp [ff, h]
theorem ff_f {p : Nat → Bool} {j n : Nat} (h : p n = false) : ff p (j + 1) n = ff p j (n + 1) := by simp [ff, h]
theorem ff_in (p : Nat → Bool) : ∀ j n, -1 ≤ ff p j n ∧ ff p j n < (n + j : Nat) + 0 ∨ ff p j n = -1
  | 0, n => Or.inr rfl
  | j + 1, n => by
    by_cases h : p n = true
    · rw [ff_t h]; exact Or.inl ⟨by omega, by omega⟩
    · rw [ff_f (by simpa using h)]
      have := ff_in p j (n + 1)
      omega
def fwt (x : Int64) (code n : Nat) : Int := if code / 12 = 1 ∨ code / 12 = 3 then ((code % 12 : Nat) : Int) - (((ent x n : Nat) : Int) - ((ent x 0 : Nat) : Int)) else ((code % 12 : Nat) : Int) + (((ent x n : Nat) : Int) - ((ent x 0 : Nat) : Int))
def fwp (code n : Nat) : Nat := if code / 12 = 2 ∨ code / 12 = 3 then 11 - n else n
def fwl (x : Int64) (code : Nat) : Nat → Int64
  | 0 => 0
  | n + 1 => we (fwl x code n) (fwp code n) (md (fwt x code n))
def fw (x : Int64) (code : Nat) : Int64 := fwl x code 12
def setN (x : Int64) (p : Nat) : Nat → Nat
  | 0 => 0
  | n + 1 => setN x p n ||| 2 ^ ent x (p + n)
theorem setN_lt (x : Int64) (p : Nat) : ∀ n, setN x p n < 65536
  | 0 => show 0 < 65536 by decide
  | n + 1 => Nat.or_lt_two_pow (n := 16) (setN_lt x p n) (Nat.pow_lt_pow_right (by decide) (ent_lt x _))
def trN (s b : Nat) : Nat := (s * 2 ^ b ||| s / 2 ^ (12 - b)) &&& 4095
theorem trN_lt (s b : Nat) : trN s b < 4096 := Nat.and_lt_two_pow (n := 12) _ (by decide)
def ivN (s : Nat) : Nat → Nat
  | 0 => 0
  | n + 1 => ivN s n ||| (s / 2 ^ n &&& 1) * 2 ^ md (-(n : Int))
theorem one_lt (a b : Nat) : (a &&& 1) * 2 ^ b ≤ 2 ^ b := by
  have h := Nat.and_le_right (n := a) (m := 1)
  calc (a &&& 1) * 2 ^ b ≤ 1 * 2 ^ b := Nat.mul_le_mul_right _ h
    _ = 2 ^ b := Nat.one_mul _
theorem ivN_lt (s : Nat) : ∀ n, ivN s n < 4096
  | 0 => show 0 < 4096 by decide
  | n + 1 => Nat.or_lt_two_pow (n := 12) (ivN_lt s n) (Nat.lt_of_le_of_lt (one_lt _ _) (Nat.pow_lt_pow_right (by decide) (md_lt _)))
def llN (s : Nat) : Nat → Nat
  | 0 => s
  | n + 1 => min (llN s n) (min (trN s n) (trN (ivN s 12) n))
theorem llN_le (s : Nat) : ∀ n, llN s n ≤ s
  | 0 => Nat.le_refl _
  | n + 1 => Nat.le_trans (Nat.min_le_left _ _) (llN_le s n)
/-- the place of a tone in a row, or NONE -/
def pin (x : Int64) (t : Nat) : Int := ff (fun i => decide (ent x i = t)) 12 0
def pn (x : Int64) (t : Nat) : Nat := (pin x t).toNat
theorem pin_in (x : Int64) (t : Nat) : -1 ≤ pin x t ∧ pin x t < 12 := by
  have := ff_in (fun i => decide (ent x i = t)) 12 0
  unfold pin
  omega
/-- every tone of the first is in the second -/
abbrev hasAll (x y : Int64) : Prop := ∀ i, i < 12 → 0 ≤ pin y (ent x i)
theorem pn_eq {y : Int64} {t : Nat} (h : 0 ≤ pin y t) : pin y t = ((pn y t : Nat) : Int) := by unfold pn; omega
theorem pn_lt (y : Int64) (t : Nat) : pn y t < 12 := by have := pin_in y t; unfold pn; omega
def plcN (x y : Int64) : Nat → Int64
  | 0 => 0
  | n + 1 => we (plcN x y n) n (pn y (ent x n))
def loN (x : Int64) (p : Nat) : Nat → Nat
  | 0 => 12
  | n + 1 => min (loN x p n) (ent x (p + n))
def hiN (x : Int64) (p : Nat) : Nat → Int
  | 0 => -1
  | n + 1 => max (hiN x p n) ((ent x (p + n) : Nat) : Int)
theorem loN_in (x : Int64) (p : Nat) : ∀ n, loN x p n < 16
  | 0 => show 12 < 16 by decide
  | n + 1 => Nat.lt_of_le_of_lt (Nat.min_le_left _ _) (loN_in x p n)
theorem hiN_in (x : Int64) (p : Nat) : ∀ n, -1 ≤ hiN x p n ∧ hiN x p n < 16
  | 0 => ⟨show (-1 : Int) ≤ -1 by decide, show (-1 : Int) < 16 by decide⟩
  | n + 1 => by
    have h1 := hiN_in x p n
    have h2 := ent_lt x (p + n)
    have h3 : hiN x p (n + 1) = max (hiN x p n) ((ent x (p + n) : Nat) : Int) := rfl
    omega
abbrev nbr (x : Int64) (p k : Nat) : Prop := hiN x p k - ((loN x p k : Nat) : Int) = (k : Int) - 1
theorem nbr_t {x : Int64} {p k n : Nat} (h : n = k) (c : hiN x p n - ((loN x p n : Nat) : Int) = (k : Int) - 1) : bI (nbr x p k) = 1 := bI_t (by subst h; exact c)
theorem nbr_f {x : Int64} {p k n : Nat} (h : n = k) (c : ¬ hiN x p n - ((loN x p n : Nat) : Int) = (k : Int) - 1) : bI (nbr x p k) = 0 := bI_f (by subst h; exact c)
/-- how many segments ahead of n stay together -/
def ckN (P : Int64) (k : Nat) : Nat → Nat
  | 0 => 0
  | n + 1 => if nbr P n k then ckN P k n + 1 else ckN P k n
theorem ckN_le (P : Int64) (k : Nat) : ∀ n, ckN P k n ≤ n
  | 0 => Nat.le_refl _
  | n + 1 => by
    have h := ckN_le P k n
    unfold ckN
    split <;> omega
/-- the machine's remainder by 12 -/
def tm (v : Int) : Int := v - v.tdiv 12 * 12
theorem tm_spec (v : Int) : (0 ≤ v → tm v = v % 12) ∧ (v < 0 → (v % 12 = 0 → tm v = 0) ∧ (¬ v % 12 = 0 → tm v = v % 12 - 12)) := by
  unfold tm
  by_cases h : 0 ≤ v
  · rw [Int.tdiv_eq_ediv_of_nonneg h]
    refine ⟨fun _ => by omega, fun h2 => by omega⟩
  · have e : v.tdiv 12 = -((-v) / 12) := by
      have h1 : v = -(-v) := (Int.neg_neg v).symm
      rw [h1, Int.neg_tdiv, Int.tdiv_eq_ediv_of_nonneg (by omega), Int.neg_neg]
    rw [e]
    refine ⟨fun h2 => absurd h2 h, fun _ => ⟨fun h3 => by omega, fun h3 => by omega⟩⟩
def xr (v : Int) : Int := (iI v ^^^ iI 12).toInt
theorem xr_spec {v : Int} (h : inI v) : inI (xr v) ∧ (0 ≤ xr v ↔ 0 ≤ v) := by
  refine ⟨iI_in _, ?_⟩
  have key : ∀ x : Int32, 0 ≤ x.toInt ↔ x.toBitVec.msb = false := fun x => by
    rw [show x.toInt = x.toBitVec.toInt from rfl, BitVec.msb_eq_toInt]
    simp
  have hv : v = (iI v).toInt := (iI_toInt h).symm
  rw [xr, key, hv, key, iI_toInt h, Int32.toBitVec_xor, BitVec.msb_xor]
  have h12 : (iI 12).toBitVec.msb = false := by decide
  rw [h12, Bool.xor_false]
/-- Integer.bitCount, step by step -/
def bc1 (x : Int32) : Int32 := x - ((x.toUInt32 >>> ((iI 1).toUInt32 &&& Int32.toUInt32 31)).toInt32 &&& (1431655765 : Int32))
def bc2 (x : Int32) : Int32 := (bc1 x &&& (858993459 : Int32)) + (((bc1 x).toUInt32 >>> ((iI 2).toUInt32 &&& Int32.toUInt32 31)).toInt32 &&& (858993459 : Int32))
def bc3 (x : Int32) : Int32 := (bc2 x + ((bc2 x).toUInt32 >>> ((iI 4).toUInt32 &&& Int32.toUInt32 31)).toInt32) &&& (252645135 : Int32)
def bc4 (x : Int32) : Int32 := bc3 x + ((bc3 x).toUInt32 >>> ((iI 8).toUInt32 &&& Int32.toUInt32 31)).toInt32
def bc5 (x : Int32) : Int32 := bc4 x + ((bc4 x).toUInt32 >>> ((iI 16).toUInt32 &&& Int32.toUInt32 31)).toInt32
def popK (s : Nat) : Nat → Nat
  | 0 => 0
  | n + 1 => popK s n + s / 2 ^ n % 2
def popN (s : Nat) : Nat := popK s 12
theorem popK_le (s : Nat) : ∀ n, popK s n ≤ n
  | 0 => Nat.le_refl _
  | n + 1 => by
    have h := popK_le s n
    have h2 : s / 2 ^ n % 2 < 2 := Nat.mod_lt _ (by decide)
    unfold popK
    omega
theorem popN_le (s : Nat) : popN s ≤ 12 := popK_le s 12
set_option maxRecDepth 100000 in
theorem bc_all : ∀ s, s < 4096 → bc5 (iI ((s : Nat) : Int)) &&& iI 63 = iI ((popN s : Nat) : Int) := by decide +kernel
theorem tr_b {s b : Nat} (h : s < 4096) (hb : b ≤ 12) : s * 2 ^ b < 4294967296 := by
  have h1 : 2 ^ b ≤ 2 ^ 12 := Nat.pow_le_pow_right (by decide) hb
  have h2 : s * 2 ^ b ≤ 4095 * 2 ^ 12 := Nat.mul_le_mul (by omega) h1
  omega
theorem iv_b (a : Nat) (z : Int) : (a &&& 1) * 2 ^ md z < 4294967296 := by
  have h1 := one_lt a (md z)
  have h2 : 2 ^ md z < 2 ^ 12 := Nat.pow_lt_pow_right (by decide) (md_lt z)
  omega
