/-! ===== calls of the law's own helpers: returned, whether the class threw or not ===== -/
theorem nar_1 : narrow .boolean (.int (iI 1)) = .int (iI 1) := by first | rfl | decide
abbrev bZ (D : va_G) (w : va_W) : State → Prop := fun U => va_P D vwCl w U.heap ∧ va_K D vwCl [] U ∧ va_D (fun _ => True) w ∧ xG U U.heap ∧ xN U
abbrev ax (l : Launch) (y : MethodName) (ws : List Cond) (rm : Room) (As : List Value) (D : va_G) (w w' : va_W) (v : Option Value) : Prop := Met l y ws rm (va_Pc As (bZ D w)) (wrQ D (inW w) w' v) 1 6 (inW w)
section AX
variable {p : Program} {l : Launch} {e : Env} {R : Room} {s : State} {m : MethodId} {args : Array Value} {below : List Frame} {meth : Method} {c : Code} {H H1 H0 : Heap} {locs : List Loc} {cells slots : Nat} {Q : State → Prop}
variable {cc : ByteArray} {pc : Nat} {ls : Array Slot} {rest st0 : List Value} {a : Array Value} {As : List Value} {D : va_G} {w w' : va_W}
theorem bZ_blind {As' : List Value} : FrameBlind (va_Pc As' (bZ D w)) := fun a U g mk q => by
  obtain ⟨q0, qP, qK, qD, qG, qN⟩ := q
  exact ⟨q0, qP, va_K.moved (u := U) (U := U.calling g mk a) (Vm.Alike.refl U.vm) qK, qD, xG.same (s := U) rfl qG, xN.moved (u := U) (U := U.calling g mk a) (Vm.Alike.refl U.vm) qN⟩
theorem bZ_preS {A : Nat → Prop} (hK : va_K D vwCl [] s) (hP : va_P D vwCl w H) (hD : va_D A w) (hG : xG s H) (hN : xN s) : PreS s H (va_Pc As (bZ D w)) As := ⟨bZ_blind, fun U hU hW => ⟨rfl, by rw [hU]; exact hP, va_K.moved hW.alike hK, hD.weaken (fun _ _ _ _ => trivial), by rw [hU]; exact hG.warm hW, hN.moved hW.alike⟩⟩
theorem bW_preS {tys : List (ClassId × FieldType)} (hK : va_K D vwCl tys s) (hP : va_P D vwCl w H) : PreS s H (va_Pc As (bW D w tys)) As := ⟨bW_blind, fun U hU hW => ⟨rfl, by rw [hU]; exact hP, va_K.moved hW.alike hK⟩⟩
theorem ax_call {v : Option Value} {A0 : Nat → Prop} (hr : va_Run p l e R s m args below meth c H locs cells slots 1 6 (F0 m pc ls st0) rest (wrQ D (inW w) w' v a) (inW w)) (hS : va_S A0 H0 H locs) (hA : ∀ q, inW w q → A0 q)
    (kk : ∀ (H1 : Heap) (locs1 : List Loc), va_P D vwCl w' H1 → H.size ≤ H1.size → (∀ q : Nat, q < H.size → ¬ inW w q → H1[q]? = H[q]?) → va_S A0 H0 H1 locs1 → W p l e R s m args below meth c H1 locs1 (cells + 1) (slots + 6) Q (F0 m (pc + 3) ls (v.toList ++ rest))) : W p l e R s m args below meth c H locs cells slots Q (F0 m pc ls st0) := by
  intro T hT X
  obtain ⟨v', st₀, t, T', L, h0, X', hL, e1, e2, ⟨hv, hP, hz, hk⟩, st⟩ := hr T hT X
  cases hv
  rw [h0] at hz hk
  obtain ⟨t2, a1, b1⟩ := kk T'.heap (locs ++ L) (by rw [e1]; exact hP) (by rw [e1]; exact hz) (fun q h1 h2 => by rw [e1]; exact hk q h1 h2)
    ⟨Nat.le_trans hS.1 (by rw [e1]; exact hz), fun q h1 h2 => by rw [e1, hk q (Nat.lt_of_lt_of_le h1 hS.1) (fun z => h2 (hA q z))]; exact hS.2.1 q h1 h2, fun q hq => by
      rcases List.mem_append.mp hq with h | h
      · exact hS.2.2 q h
      · exact hA _ (hL q h)⟩ T' rfl X'
  exact ⟨t2, st t2 a1, b1⟩
/-- an int by a branch, whatever it is -/
theorem ib_divt {a b z : Int} (hexec : p.tables.exec = Jvm.exec) (hb : c.code = cc) (hdg : decode cc pc = .ok (.idiv, 1)) (ha : inI a) (hb1 : 0 < b) (hb2 : b ≤ 2147483647) (h : a.tdiv b = z) (k : W p l e R s m args below meth c H locs cells slots Q (F0 m (pc + 1) ls (.int (iI z) :: rest))) : W p l e R s m args below meth c H locs cells slots Q (F0 m pc ls (.int (iI b) :: .int (iI a) :: rest)) := lv_idiv hexec hb hdg (ib_ne0 hb1 hb2) (st_i (by rw [iI_tdiv ha ⟨by omega, hb2⟩ hb1, h]) k)
end AX
/-! the script's numbers -/
def lo0 (x : Int32) : Nat := (x &&& (2147483647 : Int32)).toInt.toNat
theorem lo0_in (x : Int32) : 0 ≤ (x &&& (2147483647 : Int32)).toInt ∧ (x &&& (2147483647 : Int32)).toInt < 2147483648 := by
  rw [← Int32.toInt_toBitVec]
  have e : (x &&& (2147483647 : Int32)).toBitVec = x.toBitVec &&& 2147483647#32 := rfl
  rw [e]
  have h3 : (x.toBitVec &&& 2147483647#32).toNat ≤ 2147483647 := by
    rw [BitVec.toNat_and]
    exact Nat.and_le_right
  rw [BitVec.toInt_eq_toNat_of_lt (by omega)]
  omega
theorem lo0_eq (x : Int32) : x &&& (2147483647 : Int32) = iI ((lo0 x : Nat) : Int) := by
  unfold lo0
  rw [Int.toNat_of_nonneg (lo0_in x).1]
  exact (Int32.ofInt_toInt _).symm
theorem lo0_lt (x : Int32) : lo0 x < 2147483648 := by
  have := lo0_in x
  unfold lo0
  omega
def lo (x : Int32) (n : Nat) : Nat := lo0 x % n
theorem lo_lt (x : Int32) {n : Nat} (h : 0 < n) : lo x n < n := Nat.mod_lt _ h
def far (k : Nat) : Int32 := iI ((7919 * (k + 149) * (k + 1801) : Nat) : Int)
theorem far_eq (k : Nat) (_ : k < 44) : far k = iI ((7919 * (k + 149) * (k + 1801) : Nat) : Int) := rfl
def cel (L : Nat) (xs : Nat → Int32) (k : Nat) : Int32 := if k < L then xs k else far k
