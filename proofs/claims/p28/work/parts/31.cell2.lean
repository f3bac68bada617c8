/-- the script lies at b -/
abbrev bX9 (b L : Nat) (xs : Nat → Int32) : State → Prop := fun U => va_X b L xs U U.heap ∧ b < U.heap.size
theorem bX9_pre {s : State} {H : Heap} {b L : Nat} {xs : Nat → Int32} {As : List Value} (hX : va_X b L xs s s.heap) (hbl : b < s.heap.size) (hz : s.heap.size ≤ H.size) (hk : H[b]? = s.heap[b]?) : PreS s H (va_Pc As (bX9 b L xs)) As := ⟨fun a U g mk q => ⟨q.1, va_X.moved (u := U) (U := U.calling g mk a) (Vm.Alike.refl U.vm) q.2.1, q.2.2⟩, fun U hU hW => ⟨rfl, va_X.moved hW.alike (hX.kept (by rw [hU]; exact hk)), by rw [hU]; omega⟩⟩
set_option maxHeartbeats 4000000 in
set_option maxRecDepth 100000 in
theorem mL_cell_in (l : Launch) (b L : Nat) (xs : Nat → Int32) (k : Nat) (hL : L ≤ 260) (hk : k < 44) (h : k < L) : rd l yL_cell wsL_cell { frames := 0, cells := 0, slots := 0, locals := 0 } [.ref b, .int (iI ((k : Nat) : Int))] (bX9 b L xs) (some (.int (xs k))) := by
  refine Met.ofW (cc := cL_cell) (maxL := 2) (ret := (some .int)) (by decide) rfl ?_
  intro P0 e s m args below meth c s₁ B hml hv
  obtain ⟨rfl, hX, hbl⟩ := hv
  have hx := B.exec
  have hb := B.bytes
  have hr := B.returns
  have hts := atoms_spec (ws := wsL_cell) B.pre
  have hown : s.vm.findClass RL = some m.cls := findClass_of_methodNamed B.named
  have hlocks := B.notSynchronized
  have hl := lv_entry ([.ref b, .int (iI ((k : Nat) : Int))]) (n := 2) (Nat.le_of_ble_eq_true rfl)
  rw [lg_entry_eq]
  generalize (lg_sl ([.ref b, .int (iI ((k : Nat) : Int))]) ++ List.replicate (2 - (lg_sl ([.ref b, .int (iI ((k : Nat) : Int))])).length) Slot.unset).toArray = ls at hl ⊢
  have hl : lv_has ls 2 [(0, .ref b), (1, .int (iI ((k : Nat) : Int)))] := hl
  refine lv_iload_n hx hb dL_cell_0 rfl (lv_at hl 1 rfl) ?_
  refine lv_aload_n hx hb dL_cell_1 rfl (lv_at hl 0 rfl) ?_
  refine va_slen hx hb hX hbl (A := fun _ => False) (fun h => h) va_S.rf dL_cell_2 ?_
  refine st_i (y := iI ((L : Nat) : Int)) (iI_nat L).symm ?_
  refine ib_icmp_ge (tgt := 12) hx hb dL_cell_3 (by decide) ⟨by omega, by omega⟩ ⟨by omega, by omega⟩ (fun c_3 => absurd c_3 (by omega)) (fun c_3 => ?_)
  refine lv_aload_n hx hb dL_cell_6 rfl (lv_at hl 0 rfl) ?_
  refine lv_iload_n hx hb dL_cell_7 rfl (lv_at hl 1 rfl) ?_
  refine va_sld (b := b) (L := L) (xs := xs) hx hb hX hbl (A := fun _ => False) (fun h => h) va_S.rf (iI_vp (i := k) (by omega) (by omega)) dL_cell_8 ?_
  refine st_i (y := xs k) (congrArg xs (iI_cl (by omega))) ?_
  refine lv_goto (tgt := 27) hx hb dL_cell_9 (by decide) ?_
  exact W.iret hx hb hr (fun t ht _ => ⟨rfl, ht⟩) (fun _ h => nomatch h) dL_cell_27

set_option maxHeartbeats 4000000 in
set_option maxRecDepth 100000 in
theorem mL_cell_out (l : Launch) (b L : Nat) (xs : Nat → Int32) (k : Nat) (hL : L ≤ 260) (hk : k < 44) (h : L ≤ k) : rd l yL_cell wsL_cell { frames := 0, cells := 0, slots := 0, locals := 0 } [.ref b, .int (iI ((k : Nat) : Int))] (bX9 b L xs) (some (.int (far k))) := by
  refine Met.ofW (cc := cL_cell) (maxL := 2) (ret := (some .int)) (by decide) rfl ?_
  intro P0 e s m args below meth c s₁ B hml hv
  obtain ⟨rfl, hX, hbl⟩ := hv
  have hx := B.exec
  have hb := B.bytes
  have hr := B.returns
  have hts := atoms_spec (ws := wsL_cell) B.pre
  have hown : s.vm.findClass RL = some m.cls := findClass_of_methodNamed B.named
  have hlocks := B.notSynchronized
  have hl := lv_entry ([.ref b, .int (iI ((k : Nat) : Int))]) (n := 2) (Nat.le_of_ble_eq_true rfl)
  rw [lg_entry_eq]
  generalize (lg_sl ([.ref b, .int (iI ((k : Nat) : Int))]) ++ List.replicate (2 - (lg_sl ([.ref b, .int (iI ((k : Nat) : Int))])).length) Slot.unset).toArray = ls at hl ⊢
  have hl : lv_has ls 2 [(0, .ref b), (1, .int (iI ((k : Nat) : Int)))] := hl
  refine lv_iload_n hx hb dL_cell_0 rfl (lv_at hl 1 rfl) ?_
  refine lv_aload_n hx hb dL_cell_1 rfl (lv_at hl 0 rfl) ?_
  refine va_slen hx hb hX hbl (A := fun _ => False) (fun h => h) va_S.rf dL_cell_2 ?_
  refine st_i (y := iI ((L : Nat) : Int)) (iI_nat L).symm ?_
  refine ib_icmp_ge (tgt := 12) hx hb dL_cell_3 (by decide) ⟨by omega, by omega⟩ ⟨by omega, by omega⟩ (fun c_3 => ?_) (fun c_3 => absurd c_3 (by omega))
  refine ib_si hx hb dL_cell_12 (by decide) ?_
  refine lv_iload_n hx hb dL_cell_15 rfl (lv_at hl 1 rfl) ?_
  refine ib_si hx hb dL_cell_16 (by decide) ?_
  refine ib_add (z := ((k + 149 : Nat) : Int)) hx hb dL_cell_19 (by omega) ?_
  refine ib_mul (z := ((7919 * (k + 149) : Nat) : Int)) hx hb dL_cell_20 (by first | omega | rfl | (push_cast; rfl)) ?_
  refine lv_iload_n hx hb dL_cell_21 rfl (lv_at hl 1 rfl) ?_
  refine ib_si hx hb dL_cell_22 (by decide) ?_
  refine ib_add (z := ((k + 1801 : Nat) : Int)) hx hb dL_cell_25 (by omega) ?_
  refine ib_mul (z := (((7919 * (k + 149)) * (k + 1801) : Nat) : Int)) hx hb dL_cell_26 (by first | omega | rfl | (push_cast; rfl)) ?_
  refine st_i (y := far k) (far_eq k hk) ?_
  exact W.iret hx hb hr (fun t ht _ => ⟨rfl, ht⟩) (fun _ h => nomatch h) dL_cell_27

theorem mL_cell (l : Launch) (b L : Nat) (xs : Nat → Int32) (k : Nat) (hL : L ≤ 260) (hk : k < 44) : rd l yL_cell wsL_cell { frames := 0, cells := 0, slots := 0, locals := 0 } [.ref b, .int (iI ((k : Nat) : Int))] (bX9 b L xs) (some (.int (cel L xs k))) := by
  by_cases h : k < L
  · rw [show cel L xs k = xs k from if_pos h]
    exact mL_cell_in l b L xs k hL hk h
  · rw [show cel L xs k = far k from if_neg h]
    exact mL_cell_out l b L xs k hL hk (Nat.not_lt.mp h)
