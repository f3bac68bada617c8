/-! ===== throws of the class: what they need of the state, and what they leave ===== -/
def xIO : String := "java/lang/IndexOutOfBoundsException"
def xIA : String := "java/lang/IllegalArgumentException"
def xIS : String := "java/lang/IllegalStateException"
abbrev xRN : List String := ["java/lang/RuntimeException", "java/lang/Exception"]
def xTX : List (Nat × String) := [(129, "there is no such row"), (132, "there is no such place"), (136, "an argument is out of its range"), (139, "the factor is not 1, 5, 7 or 11"), (141, "the size is not 1, 2, 3, 4, 6 or 12"), (109, "the phrase has this tone")]
def xNw : List Cond := [.castable "java/lang/IndexOutOfBoundsException" "java/lang/IndexOutOfBoundsException", .castable "java/lang/IllegalArgumentException" "java/lang/IllegalArgumentException", .castable "java/lang/IllegalStateException" "java/lang/IllegalStateException", .declares (Bundle.initS "java/lang/RuntimeException"), .declares (Bundle.initS "java/lang/Exception"), .declares (Bundle.initS "java/lang/Throwable")]
theorem xNw_tab : ∀ w ∈ xNw, w.onTables = true := by decide +kernel
def xG (U : State) (H : Heap) : Prop := (∀ w ∈ xNw, va_Nw w U) ∧ vx_Zq Bundle.tN "UNASSIGNED_STACK" Bundle.steD (fun _ => False) U H ∧ vx_Zq Bundle.tN "SUPPRESSED_SENTINEL" Bundle.listD (fun _ => False) U H ∧ ∀ q ∈ xTX, ∃ a, vk_R RX0 q.1 q.2 a U
theorem xNw_warm {s U : State} (hW : s.WarmedH U.vm) (h : ∀ w ∈ xNw, va_Nw w s) : ∀ w ∈ xNw, va_Nw w U := by
  unfold xNw at h ⊢
  simp only [List.forall_mem_cons] at h ⊢
  obtain ⟨h1, h2, h3, h4, h5, h6, -⟩ := h
  exact ⟨va_Nw.warmC hW h1, va_Nw.warmC hW h2, va_Nw.warmC hW h3, va_Nw.warmD hW h4, va_Nw.warmD hW h5, va_Nw.warmD hW h6, fun _ h => nomatch h⟩
theorem xG.warm {s U : State} {H : Heap} (hW : s.WarmedH U.vm) (h : xG s H) : xG U H :=
  ⟨xNw_warm hW h.1, h.2.1.moved hW.alike, h.2.2.1.moved hW.alike, fun q hq => (h.2.2.2 q hq).elim fun a ha => ⟨a, ha.warm hW⟩⟩
theorem xG.same {s U : State} {H : Heap} (hv : U.vm = s.vm) (h : xG s H) : xG U H :=
  ⟨fun w hw => (h.1 w hw).same (xNw_tab w hw) hv.symm, h.2.1.moved (by rw [hv]; exact Vm.Alike.refl s.vm), h.2.2.1.moved (by rw [hv]; exact Vm.Alike.refl s.vm), fun q hq => (h.2.2.2 q hq).elim fun a ha => ⟨a, ha.same hv⟩⟩
theorem xG.str {s : State} {H : Heap} (h : xG s H) {k : Nat} {t : String} (hq : (k, t) ∈ xTX) : ∃ a, vk_R RX0 k t a s := h.2.2.2 (k, t) hq
theorem xG.words {s : State} {H : Heap} {args : Array Value} (h : xG s H) {ic : Nat} {X : String} (h1 : ∀ w ∈ (vx_atS RX0 ic X xRN).filter goodWord, w.before args s = true) (h2 : ∀ w ∈ (vx_atS RX0 ic X xRN).filter (fun w => !goodWord w), w ∈ xNw) : ∀ w ∈ vx_atS RX0 ic X xRN, w.before args s = true :=
  vx_hat h1 h2 (fun w hw => (h.1 w hw).use (xNw_tab w hw))
/-- thrown: the class E, and nothing changed that was there -/
def XO (E : String) : String → State → State → Prop := fun E' st t => E' = E ∧ st.heap.size ≤ t.heap.size ∧ ∀ q : Nat, q < st.heap.size → t.heap[q]? = st.heap[q]?
def noQ : Array Value → State → Outcome → State → Prop := fun _ _ _ _ => False
abbrev xB : State → Prop := fun U => xG U U.heap
abbrev bX (D : va_G) (w : va_W) (tys : List (ClassId × FieldType)) : State → Prop := fun U => va_P D vwCl w U.heap ∧ va_K D vwCl tys U ∧ xG U U.heap
abbrev th (l : Launch) (y : MethodName) (ws : List Cond) (rm : Room) (As : List Value) (B : State → Prop) (E : String) : Prop := vx_Met l y ws rm (va_Pc As B) noQ (XO E) 1 6 (fun _ => False)
section TH
variable {p : Program} {l : Launch} {e : Env} {R : Room} {s : State} {m : MethodId} {args : Array Value} {below : List Frame} {meth : Method} {c : Code} {H : Heap} {locs : List Loc} {cells slots : Nat} {Q : State → Prop}
variable {cc : ByteArray} {pc : Nat} {ls : Array Slot} {rest st0 : List Value} {a : Array Value} {E C : String} {As : List Value} {D : va_G} {w : va_W} {tys : List (ClassId × FieldType)}
theorem xS_pre (h : xG s H) : PreS s H (va_Pc As xB) As := ⟨fun _ U _ _ q => ⟨q.1, xG.same (s := U) rfl q.2⟩, fun U hU hW => ⟨rfl, by show xG U U.heap; rw [hU]; exact h.warm hW⟩⟩
theorem xV_blind {As' : List Value} : FrameBlind (va_Pc As' (bX D w tys)) := fun a U g mk q => by
  obtain ⟨q0, qP, qK, qG⟩ := q
  exact ⟨q0, qP, va_K.moved (u := U) (U := U.calling g mk a) (Vm.Alike.refl U.vm) qK, xG.same (s := U) rfl qG⟩
theorem xV_pre {b : Addr} (hK : va_K D vwCl tys s) (hP : va_P D vwCl w H) (hG : xG s H) {ci q0 : Nat} {q : vw_C} {fs : List Value} (hc : vwCl[ci]? = some q) (hC : q.1 = C) (he : w[q0]? = some (b, .inr (ci, fs))) : PreV s H C b (va_Pc (.ref b :: As) (bX D w tys)) As := by
  subst hC
  exact ⟨xV_blind, va_recv hK hP hc he, fun U hU hW => ⟨rfl, by rw [hU]; exact hP, va_K.moved hW.alike hK, by rw [hU]; exact hG.warm hW⟩⟩
/-- a call that throws -/
theorem th_call (hr : vx_Run p l e R s m args below meth c H locs cells slots 1 6 (F0 m pc ls st0) rest (noQ a) (XO E) (fun _ => False))
    (kx : ∀ (ce : Cell) (q9 : Addr) (H1 : Heap), H.size ≤ H1.size → (∀ q : Nat, q < H.size → H1[q]? = H[q]?) → H1[q9]? = some ce → ce.vm = .none → s.vm.findClass E = some ce.cls → vx_W p l e R s m args below meth c H1 locs (cells + 1) (slots + 6) Q (F0 m pc ls rest) q9) : W p l e R s m args below meth c H locs cells slots Q (F0 m pc ls st0) := by
  intro T hT X
  rcases hr T hT X with ⟨v, st₀, t, T', L, h0, X', hL, e1, e2, hq, st⟩ | ⟨q, st₀, t, T', L, E', ce, h0, X', hL, e1, e2, ⟨rfl, hz, hk⟩, hce, hcv, hcl, st⟩
  · exact hq.elim
  · have hL0 : L = [] := by
      cases L with
      | nil => rfl
      | cons x xs => exact (hL x List.mem_cons_self).elim
    subst hL0
    rw [List.append_nil] at X'
    rw [h0] at hz hk
    obtain ⟨t2, a1, b1⟩ := kx ce q T'.heap (by rw [e1]; exact hz) (fun q h => by rw [e1]; exact hk q h) (by rw [e1]; exact hce) hcv hcl T' rfl X'
    exact ⟨t2, st.trans a1, b1⟩
/-- .. and goes on to the caller -/
theorem th_out {ce : Cell} {q9 : Addr} (hout : ∀ x ∈ c.exceptionTable.toList, False) (hlocks : meth.locks = false) (hz : s.heap.size ≤ H.size) (hk : ∀ q : Nat, q < s.heap.size → H[q]? = s.heap[q]?) (hce : H[q9]? = some ce) (hcv : ce.vm = .none) (hcl : s.vm.findClass E = some ce.cls) (hc : cells ≤ 1) (hs : slots ≤ 6) :
    vx_W p l e R s m args below meth c H [] cells slots (vx_MQ below noQ (XO E) args s 1 6 (fun _ => False)) (F0 m pc ls rest) q9 :=
  vx_out (fun x h => (hout x h).elim) hlocks hce hcv hcl (fun t ht _ => ⟨rfl, by rw [ht]; exact hz, fun q h => by rw [ht]; exact hk q h⟩) (fun _ h => nomatch h) hc hs
end TH
