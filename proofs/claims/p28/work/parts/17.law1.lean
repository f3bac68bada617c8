/-! ===== the law's helpers: worlds of two parts, tables of handlers ===== -/
theorem mt_ofWH {l : Launch} {y : MethodName} {ws ws' : List Cond} {rm : Room} {Pc : Array Value → State → Prop} {Qc : Array Value → State → Outcome → State → Prop} {mc ms : Nat} {free : Addr → Prop} {cc : ByteArray} {maxL : Nat} {ret : Option FieldType} {hh : List (Nat × Nat × Nat × Nat)}
    (hy : plainName y.cls = true) (hw : ws = Cond.codeWith y cc maxL ret hh :: ws')
    (body : ∀ p e s m args below meth c s₁, BodyLoose p l y (headSpec ws rm) cc maxL ret e s m args below meth c s₁ → c.maxLocals = maxL → Pc args s →
      W p l e (headSpec ws rm).room s m args below meth c s.heap [] 0 0 (MQ below Qc args s mc ms free) (entryFrame m args maxL)) : Met l y ws rm Pc Qc mc ms free := by
  refine MetFree.of_bodyS (code := cc) (maxLocals := maxL) (ret := ret) hy ?_ ?_
  · intro args s m h hn
    obtain ⟨m9, meth, c, hn9, h1, h2, h3, h4, -, h5, h6, -⟩ := Cond.codeWith_spec (atoms_spec (ws := ws) h _ (by rw [hw]; exact List.mem_cons_self))
    cases hn.symm.trans hn9
    exact ⟨meth, c, h1, h2, h3, h4, h5, h6⟩
  · intro p e s m args below meth c s₁ B hml hP _
    have hh0 : s₁.heap = s.heap := by rw [B.state]; rfl
    obtain ⟨t, a1, o, b1, b2, b3⟩ := body p e s m args below meth c s₁ B hml hP s₁ hh0 (Stand.of_body B)
    exact ⟨t, o, a1, b1, b2, ⟨b3.1, b3.2⟩⟩
def xN (U : State) : Prop := va_Nc "java/lang/IllegalArgumentException" "java/lang/IndexOutOfBoundsException" U ∧ va_Nc "java/lang/IllegalStateException" "java/lang/IllegalArgumentException" U
theorem xN.moved {u U : State} (hv : u.vm.Alike U.vm) (h : xN u) : xN U := ⟨va_Nc.moved hv h.1, va_Nc.moved hv h.2⟩
abbrev bY (D : va_G) (w : va_W) (tys : List (ClassId × FieldType)) : State → Prop := fun U => va_P D vwCl w U.heap ∧ va_K D vwCl tys U ∧ xG U U.heap ∧ xN U
/-- returned v, and nothing changed that was there -/
def rdK (v : Option Value) : Array Value → State → Outcome → State → Prop := fun _ st o t => o = .returned v ∧ st.heap.size ≤ t.heap.size ∧ ∀ q : Nat, q < st.heap.size → t.heap[q]? = st.heap[q]?
abbrev wb (l : Launch) (y : MethodName) (ws : List Cond) (rm : Room) (As : List Value) (D : va_G) (w : va_W) (tys : List (ClassId × FieldType)) (v : Option Value) : Prop := Met l y ws rm (va_Pc As (bY D w tys)) (rdK v) 1 6 (fun _ => False)
section LW
variable {p : Program} {l : Launch} {e : Env} {R : Room} {s : State} {m : MethodId} {args : Array Value} {below : List Frame} {meth : Method} {c : Code} {H H1 H0 : Heap} {locs : List Loc} {cells slots : Nat} {Q : State → Prop}
variable {cc : ByteArray} {pc : Nat} {ls : Array Slot} {rest st0 : List Value} {a : Array Value} {E C : String} {As : List Value} {D : va_G} {cl : List vw_C} {w w1 w2 w1' w2' : va_W} {tys : List (ClassId × FieldType)} {A : Nat → Prop}
theorem inW_l {q : Nat} (h : inW w1 q) : inW (w1 ++ w2) q := by
  obtain ⟨k, e, hk⟩ := h
  exact ⟨k, e, by rw [List.getElem?_append_left (List.getElem?_eq_some_iff.mp hk).1]; exact hk⟩
theorem inW_r {q : Nat} (h : inW w2 q) : inW (w1 ++ w2) q := by
  obtain ⟨k, e, hk⟩ := h
  exact ⟨w1.length + k, e, by rw [List.getElem?_append_right (by omega), Nat.add_sub_cancel_left]; exact hk⟩
theorem va_P_l (h : va_P D cl (w1 ++ w2) H) : va_P D cl w1 H := fun k q hk => h k q (by rw [List.getElem?_append_left (List.getElem?_eq_some_iff.mp hk).1]; exact hk)
theorem va_P_r (h : va_P D cl (w1 ++ w2) H) : va_P D cl w2 H := fun k q hk => h (w1.length + k) q (by rw [List.getElem?_append_right (by omega), Nat.add_sub_cancel_left]; exact hk)
theorem va_D_l (h : va_D A (w1 ++ w2)) : va_D A w1 := ⟨fun i j p q hi hj hpq => h.1 i j p q (by rw [List.getElem?_append_left (List.getElem?_eq_some_iff.mp hi).1]; exact hi) (by rw [List.getElem?_append_left (List.getElem?_eq_some_iff.mp hj).1]; exact hj) hpq, fun k q hk => h.2 k q (by rw [List.getElem?_append_left (List.getElem?_eq_some_iff.mp hk).1]; exact hk)⟩
theorem va_D_r (h : va_D A (w1 ++ w2)) : va_D A w2 := ⟨fun i j p q hi hj hpq => by
    have := h.1 (w1.length + i) (w1.length + j) p q (by rw [List.getElem?_append_right (by omega), Nat.add_sub_cancel_left]; exact hi) (by rw [List.getElem?_append_right (by omega), Nat.add_sub_cancel_left]; exact hj) hpq
    omega, fun k q hk => h.2 (w1.length + k) q (by rw [List.getElem?_append_right (by omega), Nat.add_sub_cancel_left]; exact hk)⟩
theorem va_D_apart (h : va_D A (w1 ++ w2)) {k : Nat} {q : Nat × va_E} (hk : w2[k]? = some q) : ¬ inW w1 q.1 := fun ⟨i, e, hi⟩ => by
  have hl := (List.getElem?_eq_some_iff.mp hi).1
  have := h.1 i (w1.length + k) (q.1, e) q (by rw [List.getElem?_append_left hl]; exact hi) (by rw [List.getElem?_append_right (by omega), Nat.add_sub_cancel_left]; exact hk) rfl
  omega
theorem va_D_apart2 (h : va_D A (w1 ++ w2)) {k : Nat} {q : Nat × va_E} (hk : w1[k]? = some q) : ¬ inW w2 q.1 := fun ⟨i, e, hi⟩ => by
  have hl := (List.getElem?_eq_some_iff.mp hk).1
  have := h.1 k (w1.length + i) q (q.1, e) (by rw [List.getElem?_append_left hl]; exact hk) (by rw [List.getElem?_append_right (by omega), Nat.add_sub_cancel_left]; exact hi) rfl
  omega
/-- the first part was written -/
theorem wj_l (hP : va_P D cl (w1 ++ w2) H) (hD : va_D A (w1 ++ w2)) (hP1 : va_P D cl w1' H1) (hk : ∀ q : Nat, q < H.size → ¬ inW w1 q → H1[q]? = H[q]?) : va_P D cl (w1' ++ w2) H1 :=
  hP1.app ((va_P_r hP).kept (fun k q hq => hk q.1 ((va_P_r hP) k q hq).lt (va_D_apart hD hq)))
/-- the second part was written -/
theorem wj_r (hP : va_P D cl (w1 ++ w2) H) (hD : va_D A (w1 ++ w2)) (hP1 : va_P D cl w2' H1) (hk : ∀ q : Nat, q < H.size → ¬ inW w2 q → H1[q]? = H[q]?) : va_P D cl (w1 ++ w2') H1 :=
  ((va_P_l hP).kept (fun k q hq => hk q.1 ((va_P_l hP) k q hq).lt (va_D_apart2 hD hq))).app hP1
theorem va_P_new (hP : va_P D cl w H) (hk : ∀ q : Nat, q < H.size → H1[q]? = H[q]?) : va_P D cl w H1 := hP.kept (fun k q hq => hk q.1 (hP k q hq).lt)
theorem va_P_larr {q0 a n : Nat} {cA : ClassId} {f g : Nat → Int64} (h : ∀ j, j < n → f j = g j) (ha : w[q0]? = some (a, .inl (cA, n, .inr (.inl f)))) (hP : va_P D cl w H) : va_P D cl (w.set q0 (a, .inl (cA, n, .inr (.inl g)))) H := by
  have hl := (List.getElem?_eq_some_iff.mp ha).1
  intro k q hk
  by_cases hkp : k = q0
  · subst hkp
    rw [List.getElem?_set_self hl] at hk
    cases hk
    show H[a]? = some (vp_cell cA (n, .inr (.inl g)))
    have e9 : vp_cell cA (n, .inr (.inl f)) = vp_cell cA (n, .inr (.inl g)) := by
      rw [vp_cell_l, vp_cell_l]
      exact arrV_cg (fun j hj => by rw [h j hj])
    rw [← e9]
    exact hP _ _ ha
  · rw [List.getElem?_set_ne (Ne.symm hkp)] at hk
    exact hP k q hk
theorem bY_blind {As' : List Value} : FrameBlind (va_Pc As' (bY D w tys)) := fun a U g mk q => by
  obtain ⟨q0, qP, qK, qG, qN⟩ := q
  exact ⟨q0, qP, va_K.moved (u := U) (U := U.calling g mk a) (Vm.Alike.refl U.vm) qK, xG.same (s := U) rfl qG, xN.moved (u := U) (U := U.calling g mk a) (Vm.Alike.refl U.vm) qN⟩
theorem bY_preS (hK : va_K D vwCl tys s) (hP : va_P D vwCl w H) (hG : xG s H) (hN : xN s) : PreS s H (va_Pc As (bY D w tys)) As := ⟨bY_blind, fun U hU hW => ⟨rfl, by rw [hU]; exact hP, va_K.moved hW.alike hK, by rw [hU]; exact hG.warm hW, hN.moved hW.alike⟩⟩
theorem bD_preS {A : Nat → Prop} (hK : va_K D vwCl tys s) (hP : va_P D vwCl w H) (hD : va_D A w) : PreS s H (va_Pc As (bD D w tys)) As := ⟨bD_blind, fun U hU hW => ⟨rfl, by rw [hU]; exact hP, va_K.moved hW.alike hK, hD.weaken (fun _ _ _ _ => trivial)⟩⟩
/-- a call that made cells and changed none -/
theorem rdK_call {v : Option Value} (hr : va_Run p l e R s m args below meth c H locs cells slots 1 6 (F0 m pc ls st0) rest (rdK v a) (fun _ => False))
    (kk : ∀ H1 : Heap, H.size ≤ H1.size → (∀ q : Nat, q < H.size → H1[q]? = H[q]?) → W p l e R s m args below meth c H1 locs (cells + 1) (slots + 6) Q (F0 m (pc + 3) ls (v.toList ++ rest))) : W p l e R s m args below meth c H locs cells slots Q (F0 m pc ls st0) := by
  intro T hT X
  obtain ⟨v', st₀, t, T', L, h0, X', hL, e1, e2, ⟨hv, hz, hk⟩, st⟩ := hr T hT X
  cases hv
  have hL0 : L = [] := by
    cases L with
    | nil => rfl
    | cons x xs => exact (hL x List.mem_cons_self).elim
  subst hL0
  rw [List.append_nil] at X'
  rw [h0] at hz hk
  obtain ⟨t2, a1, b1⟩ := kk T'.heap (by rw [e1]; exact hz) (fun q h => by rw [e1]; exact hk q h) T' rfl X'
  exact ⟨t2, st t2 a1, b1⟩
end LW
theorem vp0 : vp_in (iI 0) 1 := iI_vp (i := 0) (n := 1) (by decide) (by decide)
theorem lup {f : Nat → Int64} {x : Int64} : ∀ j, j < 1 → vp_updL f (iI 0).toNatClampNeg x j = x := fun j hj => by
  have h0 : j = 0 := by omega
  subst h0
  rfl
